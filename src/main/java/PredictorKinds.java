import java.util.Arrays;

/**
 * Predictors of branches of ten kinds behind one face. The face keeps what all kinds share (the history, what
 * waits, the marks, the counts); a kind keeps its own tables and is handed the history that it shall go by.
 */
public final class PredictorKinds {
    private static final int KIND_COUNT = 10;
    private static final int SIZE_COUNT = 10;
    private static final int MOST_MARKS = 32;
    private static final int MOST_WAITING = 64;
    private static final int MOST_SEVERAL = 16;
    private static final int PLACE_STEP = 4;
    private static final int HISTORY_BITS = 32;

    private static final int COUNTER_BITS = 2;
    private static final int COUNTER_FIRST = 1;
    private static final int COUNTER_TAKEN = 2;
    private static final int COUNTER_MOST = 3;

    private final int kindNumber;
    private final int size;
    private final Kind kind;
    private final Waiting waiting;
    private final int[] marks;
    private int markCount;
    private int past;
    private boolean isEarly;
    private int updates;
    private int wrongs;
    private int takens;
    private int corrections;

    public PredictorKinds(int kind, int size, int seed) {
        this.kindNumber = Math.floorMod(kind, KIND_COUNT);
        // As a long, because size - 1 of the least int is no int.
        this.size = 1 + (int) Math.floorMod(size - 1L, (long) SIZE_COUNT);
        this.kind = kindOf(this.kindNumber, this.size, seed);
        this.waiting = new Waiting();
        this.marks = cells(MOST_MARKS, 0);
    }

    public boolean told(int place) {
        boolean said = kind.says(place, past);
        if (isEarly && waiting.hasRoom()) {
            waiting.add(place, past, said);
            past = behind(past, said);
        }
        return said;
    }

    public boolean update(int place, boolean taken) {
        int oldest = waiting.oldestOf(place);
        int before = oldest >= 0 ? waiting.historyBefore(oldest) : past;
        boolean right = kind.says(place, before) == taken;
        kind.learn(place, before, taken);
        settle(oldest, before, taken);
        updates++;
        wrongs += right ? 0 : 1;
        takens += taken ? 1 : 0;
        return right;
    }

    public boolean early(boolean on) {
        boolean was = isEarly;
        isEarly = on;
        waiting.lose();
        return was;
    }

    public int history() {
        return past;
    }

    public int mark() throws UnsupportedOperationException {
        if (markCount >= MOST_MARKS) {
            throw new UnsupportedOperationException("there are 32 marks");
        }
        put(marks, markCount, past);
        markCount++;
        return markCount - 1;
    }

    public int repair(int mark) throws IndexOutOfBoundsException {
        if (mark < 0 || mark >= markCount) {
            throw new IndexOutOfBoundsException("no such mark");
        }
        int before = past;
        past = at(marks, mark);
        markCount = mark + 1;
        waiting.lose();
        return before;
    }

    public int row(int place) {
        return kind.number(place, past);
    }

    public int part(int place) {
        return kind.answering(place, past);
    }

    public int storage() {
        return kind.bits();
    }

    public int count(int what) {
        switch (what) {
            case 0: return updates;
            case 1: return wrongs;
            case 2: return takens;
            case 3: return waiting.length();
            case 4: return markCount;
            case 5: return corrections;
            case 6: return kindNumber;
            case 7: return size;
            default: return -1;
        }
    }

    public int several(int place, int n) throws IllegalArgumentException {
        if (n < 1 || n > MOST_SEVERAL) {
            throw new IllegalArgumentException("n is not 1 .. 16");
        }
        int asIf = past;
        int answers = 0;
        for (int k = 0; k < n; k++) {
            boolean said = kind.says(place + PLACE_STEP * k, asIf);
            answers |= said ? 1 << k : 0;
            asIf = behind(asIf, said);
        }
        return answers;
    }

    /** What the history and what waits become; it goes by what was said when told, not by what is said now. */
    private void settle(int oldest, int before, boolean taken) {
        if (oldest < 0) {
            past = behind(past, taken);
        } else if (waiting.wasSaid(oldest) == taken) {
            waiting.remove(oldest);
        } else {
            past = behind(before, taken);
            waiting.lose();
            corrections++;
        }
    }

    private static Kind kindOf(int number, int size, int seed) {
        switch (number) {
            case 1: return new Last(size);
            case 2: return new Counters(size, false);
            case 3: return new Counters(size, true);
            case 4: return new Own(size);
            case 5: return new Chooser(size);
            case 6: return new Tagged(size);
            case 7: return new Sums(size);
            case 8: return new Loops(size);
            case 9: return new Coin(size, seed);
            default: return new Always(size);
        }
    }

    /** A history with one more outcome behind it. */
    private static int behind(int history, boolean taken) {
        return (history << 1) | (taken ? 1 : 0);
    }

    private static boolean bitOf(int value, int bit) {
        return ((value >>> bit) & 1) == 1;
    }

    private static int maskOf(int width) {
        return (1 << width) - 1;
    }

    /** The low length bits of a history, folded to width bits. */
    private static int folded(int history, int length, int width) {
        int mask = maskOf(width);
        int rest = history & maskOf(length);
        int result = 0;
        // Every round takes at least one bit, so that length rounds are always enough.
        for (int round = 0; round < length; round++) {
            result ^= rest & mask;
            rest >>>= width;
        }
        return result;
    }

    private static int[] cells(int length, int first) {
        int[] made = new int[length > 0 ? length : 0];
        Arrays.fill(made, first);
        return made;
    }

    private static int at(int[] cells, int index) {
        return index >= 0 && index < cells.length ? cells[index] : 0;
    }

    private static void put(int[] cells, int index, int value) {
        if (index >= 0 && index < cells.length) {
            cells[index] = value;
        }
    }

    private static void step(int[] cells, int index, boolean up, int least, int most) {
        int value = at(cells, index);
        if (up && value < most) {
            put(cells, index, value + 1);
        } else if (!up && value > least) {
            put(cells, index, value - 1);
        }
    }

    private static void stepCounter(int[] counters, int index, boolean up) {
        step(counters, index, up, 0, COUNTER_MOST);
    }

    /** What was told early and has not been updated, the oldest one first. */
    private static final class Waiting {
        private final int[] places = cells(MOST_WAITING, 0);
        private final int[] histories = cells(MOST_WAITING, 0);
        private final int[] answers = cells(MOST_WAITING, 0);
        private int used;

        int length() {
            return used;
        }

        boolean hasRoom() {
            return used < MOST_WAITING;
        }

        void add(int place, int historyBefore, boolean said) {
            if (hasRoom()) {
                fill(used, place, historyBefore, said ? 1 : 0);
                used++;
            }
        }

        /** The index of the oldest one of a place, or -1. */
        int oldestOf(int place) {
            for (int i = 0; i < used; i++) {
                if (at(places, i) == place) {
                    return i;
                }
            }
            return -1;
        }

        int historyBefore(int index) {
            return at(histories, index);
        }

        boolean wasSaid(int index) {
            return at(answers, index) == 1;
        }

        void remove(int index) {
            if (index < 0 || index >= used) {
                return;
            }
            for (int i = index; i < used - 1; i++) {
                fill(i, at(places, i + 1), at(histories, i + 1), at(answers, i + 1));
            }
            used--;
        }

        void lose() {
            used = 0;
        }

        private void fill(int index, int place, int historyBefore, int answer) {
            put(places, index, place);
            put(histories, index, historyBefore);
            put(answers, index, answer);
        }
    }

    /** One kind: it never looks at the history of the face, but only at the one that it is handed. */
    private abstract static class Kind {
        final int size;
        final int rows;
        final int mask;

        Kind(int size) {
            this.size = size;
            this.rows = 1 << size;
            this.mask = rows - 1;
        }

        abstract boolean says(int place, int history);

        abstract void learn(int place, int history, boolean taken);

        abstract int number(int place, int history);

        abstract int bits();

        int answering(int place, int history) {
            return 0;
        }

        final int plainRow(int place) {
            return (place ^ (place >>> size)) & mask;
        }
    }

    /** Kind 0. */
    private static final class Always extends Kind {
        Always(int size) {
            super(size);
        }

        boolean says(int place, int history) {
            return true;
        }

        void learn(int place, int history, boolean taken) {
            // It keeps no bits to learn into.
        }

        int number(int place, int history) {
            return 1;
        }

        int bits() {
            return 0;
        }
    }

    /** Kind 1. */
    private static final class Last extends Kind {
        private final int[] outcomes;

        Last(int size) {
            super(size);
            outcomes = cells(rows, 0);
        }

        boolean says(int place, int history) {
            return number(place, history) == 1;
        }

        void learn(int place, int history, boolean taken) {
            put(outcomes, plainRow(place), taken ? 1 : 0);
        }

        int number(int place, int history) {
            return at(outcomes, plainRow(place));
        }

        int bits() {
            return rows;
        }
    }

    /** Kind 2, or mixed with the history kind 3. */
    private static final class Counters extends Kind {
        private final boolean mixed;
        private final int[] counters;

        Counters(int size, boolean mixed) {
            super(size);
            this.mixed = mixed;
            counters = cells(rows, COUNTER_FIRST);
        }

        boolean says(int place, int history) {
            return at(counters, counterRow(place, history)) >= COUNTER_TAKEN;
        }

        void learn(int place, int history, boolean taken) {
            stepCounter(counters, counterRow(place, history), taken);
        }

        int number(int place, int history) {
            return at(counters, counterRow(place, history));
        }

        int bits() {
            return COUNTER_BITS * rows + (mixed ? HISTORY_BITS : 0);
        }

        private int counterRow(int place, int history) {
            return mixed ? (place ^ history) & mask : plainRow(place);
        }
    }

    /** Kind 4. S is never above 10, so that min(S, 10) is S: as many counters as rows, histories of S outcomes. */
    private static final class Own extends Kind {
        private final int[] histories;
        private final int[] counters;

        Own(int size) {
            super(size);
            histories = cells(rows, 0);
            counters = cells(rows, COUNTER_FIRST);
        }

        boolean says(int place, int history) {
            return number(place, history) >= COUNTER_TAKEN;
        }

        void learn(int place, int history, boolean taken) {
            int row = plainRow(place);
            int own = at(histories, row);
            stepCounter(counters, own, taken);
            put(histories, row, behind(own, taken) & mask);
        }

        int number(int place, int history) {
            return at(counters, at(histories, plainRow(place)));
        }

        int bits() {
            return size * rows + COUNTER_BITS * rows;
        }
    }

    /** Kind 5. */
    private static final class Chooser extends Kind {
        private static final int PLAIN_PART = 2;
        private static final int MIXED_PART = 3;

        private final Counters plain;
        private final Counters mixed;
        private final int[] choosers;

        Chooser(int size) {
            super(size);
            plain = new Counters(size, false);
            mixed = new Counters(size, true);
            choosers = cells(rows, COUNTER_FIRST);
        }

        boolean says(int place, int history) {
            return takesMixed(place) ? mixed.says(place, history) : plain.says(place, history);
        }

        void learn(int place, int history, boolean taken) {
            boolean plainRight = plain.says(place, history) == taken;
            boolean mixedRight = mixed.says(place, history) == taken;
            if (plainRight != mixedRight) {
                stepCounter(choosers, plainRow(place), mixedRight);
            }
            plain.learn(place, history, taken);
            mixed.learn(place, history, taken);
        }

        int number(int place, int history) {
            return at(choosers, plainRow(place));
        }

        int answering(int place, int history) {
            return takesMixed(place) ? MIXED_PART : PLAIN_PART;
        }

        int bits() {
            return plain.bits() + mixed.bits() + COUNTER_BITS * rows;
        }

        private boolean takesMixed(int place) {
            return at(choosers, plainRow(place)) >= COUNTER_TAKEN;
        }
    }

    /** Kind 6. The three tables lie one behind the other in each array. */
    private static final class Tagged extends Kind {
        private static final int TABLES = 3;
        private static final int SHORTEST = 4;
        private static final int TAG_BITS = 8;
        private static final int TAG_MASK = 255;
        private static final int NO_TAG = -1;
        private static final int SUM_LEAST = -4;
        private static final int SUM_MOST = 3;
        private static final int USE_MOST = 3;
        private static final int ROW_BITS = 13;

        private final Counters base;
        private final int[] tags;
        private final int[] sums;
        private final int[] uses;

        Tagged(int size) {
            super(size);
            base = new Counters(size, false);
            tags = cells(TABLES * rows, NO_TAG);
            sums = cells(TABLES * rows, 0);
            uses = cells(TABLES * rows, 0);
        }

        boolean says(int place, int history) {
            return saidBy(lastHit(place, history, TABLES), place, history);
        }

        void learn(int place, int history, boolean taken) {
            int hit = lastHit(place, history, TABLES);
            boolean right = saidBy(hit, place, history) == taken;
            if (hit < 0) {
                base.learn(place, history, taken);
            } else {
                learnHit(hit, place, history, taken);
            }
            if (!right) {
                claim(hit + 1, place, history, taken);
            }
        }

        int number(int place, int history) {
            int hit = lastHit(place, history, TABLES);
            return hit < 0 ? base.number(place, history) : at(sums, cellOf(hit, place, history));
        }

        int answering(int place, int history) {
            return lastHit(place, history, TABLES);
        }

        int bits() {
            return base.bits() + TABLES * ROW_BITS * rows + HISTORY_BITS;
        }

        /** The last table before a given one that hits, or -1. */
        private int lastHit(int place, int history, int before) {
            for (int table = before - 1; table >= 0; table--) {
                if (at(tags, cellOf(table, place, history)) == tagOf(table, place, history)) {
                    return table;
                }
            }
            return -1;
        }

        private boolean saidBy(int table, int place, int history) {
            return table < 0 ? base.says(place, history) : at(sums, cellOf(table, place, history)) >= 0;
        }

        private void learnHit(int hit, int place, int history, boolean taken) {
            int cell = cellOf(hit, place, history);
            boolean answer = saidBy(hit, place, history);
            boolean other = saidBy(lastHit(place, history, hit), place, history);
            step(sums, cell, taken, SUM_LEAST, SUM_MOST);
            if (answer != other) {
                step(uses, cell, answer == taken, 0, USE_MOST);
            }
        }

        private void claim(int first, int place, int history, boolean taken) {
            for (int table = first; table < TABLES; table++) {
                int cell = cellOf(table, place, history);
                if (at(uses, cell) == 0) {
                    put(tags, cell, tagOf(table, place, history));
                    put(sums, cell, taken ? 0 : -1);
                    return;
                }
            }
            for (int table = first; table < TABLES; table++) {
                step(uses, cellOf(table, place, history), false, 0, USE_MOST);
            }
        }

        private int cellOf(int table, int place, int history) {
            int fold = folded(history, SHORTEST << table, size);
            return table * rows + ((place ^ fold ^ (table + 1)) & mask);
        }

        private int tagOf(int table, int place, int history) {
            int fold = folded(history, SHORTEST << table, TAG_BITS);
            return ((place >>> 2) ^ fold ^ (7 * table)) & TAG_MASK;
        }
    }

    /** Kind 7. The nine weights of a row lie side by side. */
    private static final class Sums extends Kind {
        private static final int OUTCOMES = 8;
        private static final int WEIGHTS = OUTCOMES + 1;
        private static final int WEIGHT_LEAST = -64;
        private static final int WEIGHT_MOST = 63;
        private static final int UNSURE = 29;
        private static final int ROW_BITS = 63;

        private final int[] weights;

        Sums(int size) {
            super(size);
            weights = cells(WEIGHTS * rows, 0);
        }

        boolean says(int place, int history) {
            return number(place, history) >= 0;
        }

        void learn(int place, int history, boolean taken) {
            int sum = number(place, history);
            boolean wrong = (sum >= 0) != taken;
            if (wrong || Math.abs(sum) <= UNSURE) {
                int first = firstWeight(place);
                step(weights, first, taken, WEIGHT_LEAST, WEIGHT_MOST);
                for (int k = 0; k < OUTCOMES; k++) {
                    step(weights, first + k + 1, bitOf(history, k) == taken, WEIGHT_LEAST, WEIGHT_MOST);
                }
            }
        }

        int number(int place, int history) {
            int first = firstWeight(place);
            int sum = at(weights, first);
            for (int k = 0; k < OUTCOMES; k++) {
                int weight = at(weights, first + k + 1);
                sum += bitOf(history, k) ? weight : -weight;
            }
            return sum;
        }

        int bits() {
            return ROW_BITS * rows + HISTORY_BITS;
        }

        private int firstWeight(int place) {
            return WEIGHTS * plainRow(place);
        }
    }

    /** Kind 8. */
    private static final class Loops extends Kind {
        private static final int TAG_MASK = 255;
        private static final int NO_TAG = -1;
        private static final int COUNT_MOST = 1000;
        private static final int TRUST_MOST = 3;
        private static final int ROW_BITS = 30;
        private static final int LOOP_PART = 1;
        private static final int PLAIN_PART = 0;

        private final Counters base;
        private final int[] tags;
        private final int[] lengths;
        private final int[] counts;
        private final int[] trusts;

        Loops(int size) {
            super(size);
            base = new Counters(size, false);
            tags = cells(rows, NO_TAG);
            lengths = cells(rows, 0);
            counts = cells(rows, 0);
            trusts = cells(rows, 0);
        }

        boolean says(int place, int history) {
            if (!isTrusted(place)) {
                return base.says(place, history);
            }
            int row = plainRow(place);
            return at(counts, row) < at(lengths, row);
        }

        void learn(int place, int history, boolean taken) {
            base.learn(place, history, taken);
            int row = plainRow(place);
            if (hasTag(place)) {
                if (taken) {
                    goRound(row);
                } else {
                    leave(row);
                }
            } else if (!taken) {
                put(tags, row, tagOf(place));
                forget(row);
            }
        }

        int number(int place, int history) {
            return hasTag(place) ? at(trusts, plainRow(place)) : -1;
        }

        int answering(int place, int history) {
            return isTrusted(place) ? LOOP_PART : PLAIN_PART;
        }

        int bits() {
            return base.bits() + ROW_BITS * rows;
        }

        private int tagOf(int place) {
            return (place >>> size) & TAG_MASK;
        }

        private boolean hasTag(int place) {
            return at(tags, plainRow(place)) == tagOf(place);
        }

        private boolean isTrusted(int place) {
            return hasTag(place) && at(trusts, plainRow(place)) == TRUST_MOST;
        }

        private void goRound(int row) {
            int count = at(counts, row) + 1;
            put(counts, row, count);
            if (count > COUNT_MOST || (at(trusts, row) > 0 && count > at(lengths, row))) {
                forget(row);
            }
        }

        private void leave(int row) {
            int count = at(counts, row);
            if (count == at(lengths, row)) {
                step(trusts, row, true, 0, TRUST_MOST);
            } else {
                put(trusts, row, 0);
                put(lengths, row, count);
            }
            put(counts, row, 0);
        }

        private void forget(int row) {
            put(lengths, row, 0);
            put(counts, row, 0);
            put(trusts, row, 0);
        }
    }

    /** Kind 9. */
    private static final class Coin extends Kind {
        private static final int FACTOR = 1103515245;
        private static final int ADDEND = 12345;
        private static final int SIDE_BIT = 16;
        private static final int STATE_BITS = 32;

        private int state;

        Coin(int size, int seed) {
            super(size);
            state = seed;
        }

        boolean says(int place, int history) {
            return bitOf(state, SIDE_BIT);
        }

        void learn(int place, int history, boolean taken) {
            state = FACTOR * state + ADDEND;
        }

        int number(int place, int history) {
            return bitOf(state, SIDE_BIT) ? 1 : 0;
        }

        int bits() {
            return STATE_BITS;
        }
    }
}
