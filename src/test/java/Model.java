import java.util.ArrayList;
import java.util.HashMap;
import java.util.List;
import java.util.Map;

/**
 * The document written a second time, slowly and in another way: histories are lists of outcomes, places are
 * numbers without sign, tables are maps of names, so that a slip in one writing is not made again in the other.
 */
final class Model {
    private final int kind;
    private final int s;
    private final Map<String, Integer> cells = new HashMap<>();
    private long coin;

    /** The latest outcome first, always 32. */
    private List<Boolean> history = new ArrayList<>();
    private final List<Waiter> waiters = new ArrayList<>();
    private final List<List<Boolean>> marks = new ArrayList<>();
    private boolean early;
    private int updates;
    private int wrong;
    private int taken;
    private int corrected;

    private record Waiter(int place, List<Boolean> before, boolean said) { }

    /** What a kind answers of a place: what it says, which part answers, and its row in number. */
    private record Answer(boolean says, int part, int row) { }

    Model(int kind, int size, int seed) {
        this.kind = (int) rest(kind, 10);
        this.s = 1 + (int) rest((long) size - 1, 10);
        this.coin = unsigned(seed);
        for (int i = 0; i < 32; i++) {
            history.add(false);
        }
    }

    boolean told(int place) {
        boolean said = answer(place, history).says;
        if (early && waiters.size() < 64) {
            waiters.add(new Waiter(place, history, said));
            history = with(history, said);
        }
        return said;
    }

    boolean update(int place, boolean outcome) {
        Waiter found = null;
        for (Waiter w : waiters) {
            if (w.place == place && found == null) {
                found = w;
            }
        }
        List<Boolean> by = found == null ? history : found.before;
        boolean right = answer(place, by).says == outcome;
        learn(place, by, outcome);
        if (found == null) {
            history = with(history, outcome);
        } else if (found.said != outcome) {
            history = with(found.before, outcome);
            waiters.clear();
            corrected++;
        } else {
            waiters.remove(indexOf(found));
        }
        updates++;
        if (!right) {
            wrong++;
        }
        if (outcome) {
            taken++;
        }
        return right;
    }

    boolean early(boolean on) {
        boolean was = early;
        early = on;
        waiters.clear();
        return was;
    }

    int history() {
        long number = 0;
        for (int i = 31; i >= 0; i--) {
            number = number * 2 + (history.get(i) ? 1 : 0);
        }
        return (int) number;
    }

    int mark() {
        if (marks.size() == 32) {
            throw new UnsupportedOperationException();
        }
        marks.add(history);
        return marks.size() - 1;
    }

    int repair(int mark) {
        if (mark < 0 || mark >= marks.size()) {
            throw new IndexOutOfBoundsException();
        }
        int was = history();
        history = marks.get(mark);
        while (marks.size() > mark + 1) {
            marks.remove(marks.size() - 1);
        }
        waiters.clear();
        return was;
    }

    int row(int place) {
        return answer(place, history).row;
    }

    int part(int place) {
        return answer(place, history).part;
    }

    int storage() {
        int rows = 1;
        for (int i = 0; i < s; i++) {
            rows *= 2;
        }
        int[] each = {0, 1, 2, 2, s + 2, 6, 2 + 3 * 13, 63, 2 + 30, 0};
        int[] once = {0, 0, 0, 32, 0, 32, 32, 32, 0, 32};
        return each[kind] * rows + once[kind];
    }

    int count(int what) {
        int[] all = {updates, wrong, taken, waiters.size(), marks.size(), corrected, kind, s};
        return what >= 0 && what < all.length ? all[what] : -1;
    }

    int several(int place, int n) {
        if (n < 1 || n > 16) {
            throw new IllegalArgumentException();
        }
        List<Boolean> asIf = history;
        int bits = 0;
        for (int i = 0; i < n; i++) {
            boolean said = answer((int) (place + 4L * i), asIf).says;
            asIf = with(asIf, said);
            if (said) {
                bits += (int) Math.round(Math.pow(2, i));
            }
        }
        return bits;
    }

    private Answer answer(int place, List<Boolean> h) {
        int plain = plainRow(place);
        switch (kind) {
            case 0:
                return new Answer(true, 0, 1);
            case 1:
                int last = cell("last", plain, 0);
                return new Answer(last == 1, 0, last);
            case 2:
                return counted("two", plain, 0);
            case 3:
                return counted("three", mixedRow(place, h), 0);
            case 4:
                return counted("four", cell("own", plain, 0), 0);
            case 5:
                int chooser = cell("chooser", plain, 1);
                boolean three = chooser >= 2;
                boolean says = three ? counted("three", mixedRow(place, h), 0).says : counted("two", plain, 0).says;
                return new Answer(says, three ? 3 : 2, chooser);
            case 6:
                return tagged(hits(place, h), 0, place);
            case 7:
                int sum = sum(plain, h);
                return new Answer(sum >= 0, 0, sum);
            case 8:
                return loop(place, plain);
            default:
                boolean up = coin / 65536 % 2 == 1;
                return new Answer(up, 0, up ? 1 : 0);
        }
    }

    private void learn(int place, List<Boolean> h, boolean outcome) {
        int plain = plainRow(place);
        switch (kind) {
            case 0:
                break;
            case 1:
                set("last", plain, outcome ? 1 : 0);
                break;
            case 2:
                count("two", plain, outcome);
                break;
            case 3:
                count("three", mixedRow(place, h), outcome);
                break;
            case 4:
                int own = cell("own", plain, 0);
                count("four", own, outcome);
                set("own", plain, (int) rest(own * 2L + (outcome ? 1 : 0), power(s)));
                break;
            case 5:
                learnChooser(place, plain, h, outcome);
                break;
            case 6:
                learnTagged(place, plain, h, outcome);
                break;
            case 7:
                learnSum(plain, h, outcome);
                break;
            case 8:
                count("two", plain, outcome);
                learnLoop(place, plain, outcome);
                break;
            default:
                coin = rest(1103515245L * coin + 12345, 4294967296L);
        }
    }

    private void learnChooser(int place, int plain, List<Boolean> h, boolean outcome) {
        boolean two = counted("two", plain, 0).says == outcome;
        boolean three = counted("three", mixedRow(place, h), 0).says == outcome;
        int chooser = cell("chooser", plain, 1);
        if (three && !two) {
            set("chooser", plain, Math.min(3, chooser + 1));
        }
        if (two && !three) {
            set("chooser", plain, Math.max(0, chooser - 1));
        }
        count("two", plain, outcome);
        count("three", mixedRow(place, h), outcome);
    }

    /** The tables that hit, the last one first. */
    private List<String> hits(int place, List<Boolean> h) {
        List<String> hits = new ArrayList<>();
        for (int t = 2; t >= 0; t--) {
            if (cell(tableRow(t, place, h) + "tag", 0, -1) == tag(t, place, h)) {
                hits.add(tableRow(t, place, h));
            }
        }
        return hits;
    }

    /** What the hit of an index says, or kind 2, when there are not so many. */
    private Answer tagged(List<String> hits, int index, int place) {
        if (index >= hits.size()) {
            return counted("two", plainRow(place), -1);
        }
        String name = hits.get(index);
        int sum = cell(name + "sum", 0, 0);
        return new Answer(sum >= 0, name.charAt(0) - '0', sum);
    }

    private void learnTagged(int place, int plain, List<Boolean> h, boolean outcome) {
        List<String> hits = hits(place, h);
        Answer first = tagged(hits, 0, place);
        Answer second = tagged(hits, 1, place);
        if (hits.isEmpty()) {
            count("two", plain, outcome);
        } else {
            String name = hits.get(0);
            set(name + "sum", 0, within(first.row + (outcome ? 1 : -1), -4, 3));
            if (first.says != second.says) {
                int use = cell(name + "use", 0, 0) + (first.says == outcome ? 1 : -1);
                set(name + "use", 0, within(use, 0, 3));
            }
        }
        if (first.says != outcome) {
            boolean given = false;
            for (int t = first.part + 1; t <= 2 && !given; t++) {
                String name = tableRow(t, place, h);
                if (cell(name + "use", 0, 0) == 0) {
                    set(name + "tag", 0, tag(t, place, h));
                    set(name + "sum", 0, outcome ? 0 : -1);
                    given = true;
                }
            }
            for (int t = first.part + 1; t <= 2 && !given; t++) {
                String name = tableRow(t, place, h);
                set(name + "use", 0, cell(name + "use", 0, 0) - 1);
            }
        }
    }

    private String tableRow(int t, int place, List<Boolean> h) {
        int length = new int[] {4, 8, 16}[t];
        return t + "table" + rest(unsigned(place) ^ fold(h, length, s) ^ (t + 1), power(s));
    }

    private int tag(int t, int place, List<Boolean> h) {
        int length = new int[] {4, 8, 16}[t];
        return (int) rest((unsigned(place) / 4) ^ fold(h, length, 8) ^ (7 * t), 256);
    }

    /** Bit i of the result is the parity of the outcomes i, i + width, i + 2 * width, .. below length. */
    private static long fold(List<Boolean> h, int length, int width) {
        long result = 0;
        for (int i = 0; i < width; i++) {
            int ones = 0;
            for (int j = i; j < length; j += width) {
                ones += h.get(j) ? 1 : 0;
            }
            result += ones % 2 * power(i);
        }
        return result;
    }

    private int sum(int plain, List<Boolean> h) {
        int sum = cell("weight0", plain, 0);
        for (int k = 0; k < 8; k++) {
            sum += (h.get(k) ? 1 : -1) * cell("weight" + (k + 1), plain, 0);
        }
        return sum;
    }

    private void learnSum(int plain, List<Boolean> h, boolean outcome) {
        int sum = sum(plain, h);
        if (sum >= 0 != outcome || sum >= -29 && sum <= 29) {
            for (int i = 0; i <= 8; i++) {
                boolean up = i == 0 ? outcome : h.get(i - 1) == outcome;
                set("weight" + i, plain, within(cell("weight" + i, plain, 0) + (up ? 1 : -1), -64, 63));
            }
        }
    }

    private Answer loop(int place, int plain) {
        boolean own = cell("looptag", plain, -1) == loopTag(place);
        int trust = own ? cell("trust", plain, 0) : -1;
        if (trust == 3) {
            return new Answer(cell("count", plain, 0) < cell("length", plain, 0), 1, 3);
        }
        return new Answer(counted("two", plain, 0).says, 0, trust);
    }

    private void learnLoop(int place, int plain, boolean outcome) {
        int length = cell("length", plain, 0);
        int count = cell("count", plain, 0);
        int trust = cell("trust", plain, 0);
        if (cell("looptag", plain, -1) != loopTag(place)) {
            if (!outcome) {
                set("looptag", plain, loopTag(place));
                setLoop(plain, 0, 0, 0);
            }
        } else if (!outcome) {
            boolean same = count == length;
            setLoop(plain, same ? length : count, 0, same ? Math.min(3, trust + 1) : 0);
        } else if (count + 1 > 1000 || trust > 0 && count + 1 > length) {
            setLoop(plain, 0, 0, 0);
        } else {
            setLoop(plain, length, count + 1, trust);
        }
    }

    private void setLoop(int plain, int length, int count, int trust) {
        set("length", plain, length);
        set("count", plain, count);
        set("trust", plain, trust);
    }

    private int loopTag(int place) {
        return (int) rest(unsigned(place) / power(s), 256);
    }

    private Answer counted(String table, int row, int part) {
        int counter = cell(table, row, 1);
        return new Answer(counter == 2 || counter == 3, part, counter);
    }

    private void count(String table, int row, boolean outcome) {
        set(table, row, within(cell(table, row, 1) + (outcome ? 1 : -1), 0, 3));
    }

    private int plainRow(int place) {
        return (int) rest(unsigned(place) ^ (unsigned(place) / power(s)), power(s));
    }

    private int mixedRow(int place, List<Boolean> h) {
        long low = 0;
        for (int i = 0; i < s; i++) {
            low += h.get(i) ? power(i) : 0;
        }
        return (int) rest(unsigned(place) ^ low, power(s));
    }

    private int cell(String table, int row, int first) {
        return cells.getOrDefault(table + ":" + row, first);
    }

    private void set(String table, int row, int value) {
        cells.put(table + ":" + row, value);
    }

    private int indexOf(Waiter waiter) {
        for (int i = 0; i < waiters.size(); i++) {
            if (waiters.get(i) == waiter) {
                return i;
            }
        }
        throw new AssertionError();
    }

    private static List<Boolean> with(List<Boolean> h, boolean outcome) {
        List<Boolean> longer = new ArrayList<>();
        longer.add(outcome);
        longer.addAll(h.subList(0, 31));
        return longer;
    }

    private static int within(int value, int least, int most) {
        return Math.max(least, Math.min(most, value));
    }

    private static long unsigned(int value) {
        return value < 0 ? value + 4294967296L : value;
    }

    private static long power(int exponent) {
        long result = 1;
        for (int i = 0; i < exponent; i++) {
            result *= 2;
        }
        return result;
    }

    private static long rest(long value, long divisor) {
        return (value % divisor + divisor) % divisor;
    }
}
