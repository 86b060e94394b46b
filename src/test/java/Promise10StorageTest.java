/** Promise 10: how many bits it keeps, worked out by hand for 2, 8 and 1024 rows. */
public final class Promise10StorageTest {
    private static final Check CHECK = new Check("promise 10");

    public static void main(String[] args) {
        int[] sizes = {1, 3, 10};
        int[][] due = {
            {0, 2, 4, 36, 6, 44, 114, 158, 64, 32},
            {0, 8, 16, 48, 40, 80, 360, 536, 256, 32},
            {0, 1024, 2048, 2080, 12288, 6176, 42016, 64544, 32768, 32},
        };
        for (int i = 0; i < sizes.length; i++) {
            for (int kind = 0; kind < 10; kind++) {
                PredictorKinds x = new PredictorKinds(kind, sizes[i], 99);
                CHECK.due("kind " + kind + ", S " + sizes[i], x.storage(), due[i][kind]);
                Check.updates(x, 77, "1001");
                x.mark();
                CHECK.due("kind " + kind + ", later", x.storage(), due[i][kind]);
            }
        }
        CHECK.end();
    }
}
