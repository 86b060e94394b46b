/** Promise 10: how many bits it keeps, worked out by hand for 2, 8 and 1024 rows, and for sizes that are no S. */
public final class Promise10StorageTest {
    private static final Check CHECK = new Check("promise 10");

    public static void main(String[] args) {
        CHECK.sentence("How many bits it keeps");
        int[] sizes = {1, 3, 10};
        int[][] due = {
            {0, 2, 4, 36, 6, 44, 114, 158, 64, 32},
            {0, 8, 16, 48, 40, 80, 360, 536, 256, 32},
            {0, 1024, 2048, 2080, 12288, 6176, 42016, 64544, 32768, 32},
        };
        for (int i = 0; i < sizes.length; i++) {
            for (int kind = 0; kind < 10; kind++) {
                PredictorKinds x = new PredictorKinds(kind, sizes[i], 99);
                CHECK.due("kind " + kind + ", S " + sizes[i], x.storage(), due[i][kind]);
                Check.updates(x, 77, "1001");
                x.mark();
                CHECK.due("kind " + kind + ", later", x.storage(), due[i][kind]);
            }
        }
        sizesThatAreNoS();
        CHECK.end();
    }

    /** 0 is S 10, 11 is S 1, -7 is S 3. */
    private static void sizesThatAreNoS() {
        CHECK.sentence("kind 0 none; 1 one each row; 2, 3 two; 4 its histories' and counters'; 5 all three");
        int[] bits = {0, 1024, 2048, 2080, 12288, 6176};
        for (int kind = 0; kind < bits.length; kind++) {
            CHECK.due("kind " + kind + ", size 0", new PredictorKinds(kind, 0, 0).storage(), bits[kind]);
        }
        CHECK.sentence("6 kind 2's and 13 each row (tag 8, sum 3, use 2); 7 63 each row");
        CHECK.due("kind 6, size 11", new PredictorKinds(6, 11, 0).storage(), 2 * 2 + 13 * 2 * 3 + 32);
        CHECK.due("kind 7, size 11", new PredictorKinds(7, 11, 0).storage(), 63 * 2 + 32);
        CHECK.sentence("8 kind 2's and 30 each row (tag 8, length and count 10 each, trust 2); 9 32");
        CHECK.due("kind 8, size -7", new PredictorKinds(8, -7, 0).storage(), 2 * 8 + 30 * 8);
        CHECK.due("kind 9, size -7", new PredictorKinds(9, -7, 0).storage(), 32);
        CHECK.sentence("and the 32 of the history, for 3, 5, 6, 7.");
        int[] least = {0, 2, 4, 4 + 32, 6, 12 + 32, 82 + 32, 126 + 32, 64, 32};
        for (int kind = 0; kind < least.length; kind++) {
            CHECK.due("kind " + kind + ", size -9", new PredictorKinds(kind, -9, 0).storage(), least[kind]);
        }
    }
}
