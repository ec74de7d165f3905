/** The boundary cases of section 6 and of promises 34 to 42: acts, pegs, and what is counted. */
public final class BoundsPegs extends Bounds {
    private static final long NO_ELEMENT = Long.MIN_VALUE;
    private static final int[] NO_PEGS = {MIN, -1, 6, 7, MAX};

    /** A hall of two with a peace of each kind from 0 to 5, given by 0, that covers both, and a broken one: 6. */
    private static Hall kinds() {
        Hall x = Hall.with(3);
        x.tell(0, "0");
        x.tell(1, "0");
        for (int kind = 0; kind <= 5; kind++) x.peace(kind, 3, 100020, 0);
        x.peace(1, 7, 50005, 0);
        x.strike(2, 5, 5, 1);
        return x;
    }

    private static int want(int kind, int act, int x, int n) {
        int holds = kind == 1 ? x + n + 3 : kind == 2 ? x + 1 + n + 3 : kind == 5 ? x + n - (2 ^ n) : x + n;
        int covers = kind == 3 ? -(holds * 2) : kind == 6 ? holds * 2 * 2 : holds * 2;
        int ends = kind == 2 ? (x ^ n) * 3 : kind == 6 ? (x ^ n) + (1 + n) : x ^ n;
        if (act == 0) return holds;
        if (act == 1) return covers;
        if (act == 2) return ends;
        int tells = covers - want(kind, 2, 1, n);
        return kind == 4 || kind == 5 ? tells ^ 5 : tells;
    }

    private static void acts() {
        says(34, "An ACT (0 .. 3) of a PEACE with x (an int that wraps)");
        Hall x = kinds();
        due(x.ofPeace(6, 0), 6);
        for (int kind = 0; kind <= 6; kind++) {
            for (int act = 0; act <= 3; act++) {
                for (int v : new int[] {0, 1, -1, 7, MAX, MAX - 8, MIN, MIN + 8}) due(x.act(kind, act, v), want(kind, act, v, kind));
            }
        }
        says(34, "n its number: 0, and the last one");
        Hall y = Hall.with(2);
        for (int i = 0; i < 60; i++) y.peace(i % 6, 0, 0, 0);
        for (int act = 0; act <= 3; act++) {
            due(y.act(0, act, MAX), want(0, act, MAX, 0));
            due(y.act(59, act, MAX), want(5, act, MAX, 59));
            due(y.act(58, act, MIN), want(4, act, MIN, 58));
            due(y.act(57, act, MIN), want(3, act, MIN, 57));
            due(y.act(56, act, MAX), want(2, act, MAX, 56));
        }
    }

    private static void noActs() {
        says(34, "0, and no TRACE then: no such PEACE, ACT");
        Hall x = kinds();
        for (int peace : new int[] {MIN, -1, 7, 59, 60, MAX}) {
            due(x.act(0, 3, 7), 13);
            due(x.count(7), 4);
            due(x.act(peace, 3, 7), 0);
            due(x.count(7), 0);
            due(x.trace(0), BAD);
        }
        for (int act : new int[] {MIN, -1, 4, MAX}) {
            due(x.act(0, 3, 7), 13);
            due(x.trace(0), 2);
            due(x.act(0, act, 7), 0);
            due(x.count(7), 0);
            due(x.trace(0), BAD);
        }
        due(x.act(-1, -1, 7), 0);
        due(new Hall().act(0, 0, 7), 0);
        says(34, "an ACT that gives 0 has a TRACE all the same");
        due(x.act(0, 0, 0), 0);
        due(x.count(7), 1);
        due(x.trace(0), 1);
    }

    private static void traces() {
        says(35, "numbers of the bodies that ran in the latest act(), as they began. BAD");
        int[][][] want = {
            {{1}, {10, 1}, {11}, {2, 10, 1, 11}},
            {{20, 1}, {10, 20, 1}, {11}, {2, 10, 20, 1, 11}},
            {{31, 20, 1}, {10, 31, 20, 1}, {30, 11}, {2, 10, 31, 20, 1, 30, 11}},
            {{1}, {40, 10, 1}, {11}, {2, 40, 10, 1, 11}},
            {{1}, {10, 1}, {11}, {50, 2, 10, 1, 11}},
            {{60, 1, 11}, {10, 60, 1, 11}, {11}, {50, 2, 10, 60, 1, 11, 11}},
            {{1}, {71, 10, 1}, {70, 11, 1}, {2, 71, 10, 1, 70, 11, 1}}};
        Hall x = kinds();
        for (int kind = 0; kind <= 6; kind++) {
            for (int act = 0; act <= 3; act++) {
                int[] bodies = want[kind][act];
                x.act(kind, act, 5);
                for (int i = 0; i < bodies.length; i++) due(x.trace(i), bodies[i]);
                due(x.trace(bodies.length), BAD);
                due(x.count(7), bodies.length);
            }
        }
        for (int i : new int[] {MIN, -1, 7, 23, 24, 25, MAX}) due(x.trace(i), BAD);
        due(x.trace(6), 1);
        says(35, "THE TRACE of a new object");
        Hall y = new Hall();
        for (int i : new int[] {MIN, -1, 0, 1, 23, 24, MAX}) due(y.trace(i), BAD);
    }

    private static void keep() {
        says(36, "A PEG holds nothing (peace -1), or a PEACE: 1. BAD");
        Hall x = Hall.with(2);
        due(x.keep(0, 0), BAD);
        for (int peg : NO_PEGS) due(x.keep(peg, -1), BAD);
        x.peace(3, 0, 0, 0);
        for (int peg : NO_PEGS) due(x.keep(peg, 0), BAD);
        for (int peace : new int[] {MIN, -2, 1, 59, 60, MAX}) due(x.keep(0, peace), BAD);
        for (int peg = 0; peg < 6; peg++) due(x.taken(peg, 0), NOTHING);
        for (int peg = 0; peg < 6; peg += 5) {
            due(x.keep(peg, 0), 1);
            due(x.taken(peg, 0), 3);
            for (int peace : new int[] {MIN, -2, 1, MAX}) due(x.keep(peg, peace), BAD);
            due(x.taken(peg, 3), 3);
            due(x.keep(peg, -1), 1);
            due(x.taken(peg, 3), NOTHING);
            due(x.keep(peg, -1), 1);
        }
        says(36, "PEACES 0 .. 59: the last one");
        for (int i = 1; i < 60; i++) x.peace(4, 0, 0, 0);
        due(x.keep(0, 59), 1);
        due(x.taken(0, 4), 4);
        due(x.keep(0, 60), BAD);
        due(x.taken(0, 4), 4);
        says(36, "a PEG holds one thing: a ROW goes, and a ROW comes instead of a PEACE");
        x.row(1, 0, 3);
        due(x.keep(1, 0), 1);
        due(x.put(1, 0, 5), OTHER_KIND);
        due(x.row(1, 0, 3), 1);
        due(x.taken(1, 3), OTHER_KIND);
        due(x.element(1, 0), 0);
        due(x.keep(1, -1), 1);
        due(x.put(1, 0, 5), NOTHING);
    }

    private static void row() {
        says(37, "A PEG holds a ROW: 1. BAD (sort, n above 60); -14");
        Hall x = new Hall();
        for (int peg : NO_PEGS) {
            due(x.row(peg, 0, 1), BAD);
            due(x.row(peg, 0, -1), BAD);
        }
        for (int sort : new int[] {MIN, -1, 5, 6, MAX}) {
            due(x.row(0, sort, 1), BAD);
            due(x.row(0, sort, -1), BAD);
        }
        for (int sort = 0; sort <= 4; sort++) {
            for (int n : new int[] {61, 62, MAX}) due(x.row(0, sort, n), BAD);
            for (int n : new int[] {-1, -61, MIN}) due(x.row(0, sort, n), SIZE_BELOW);
        }
        due(x.put(0, 0, 1), NOTHING);
        says(37, "of 0 .. 60 elements, 0 at first (false)");
        for (int sort = 0; sort <= 4; sort++) {
            due(x.row(sort, sort, 0), 1);
            due(x.put(sort, 0, 1), NO_PLACE);
            due(x.row(sort, sort, 1), 1);
            due(x.element(sort, 0), 0);
            due(x.put(sort, 1, 1), NO_PLACE);
            due(x.row(sort, sort, 60), 1);
            for (int i = 0; i < 60; i += 59) {
                due(x.element(sort, i), 0);
                due(x.put(sort, i, -1), 1);
            }
            due(x.put(sort, 60, 1), NO_PLACE);
        }
        says(37, "what is refused leaves the ROW that is there");
        due(x.row(3, 3, 61), BAD);
        due(x.row(3, 5, 2), BAD);
        due(x.row(3, 3, -1), SIZE_BELOW);
        due(x.element(3, 59), -1);
        says(37, "0 at first: a ROW of the same PEG anew, and the PEGS beside it");
        due(x.row(3, 3, 60), 1);
        due(x.element(3, 0), 0);
        due(x.element(3, 59), 0);
        due(x.element(2, 59), -1);
        due(x.element(4, 0), 1);
        due(x.element(4, 59), 1);
        due(x.row(3, 0, 2), 1);
        due(x.put(3, 1, 200), 1);
        due(x.element(3, 1), -56);
        due(x.row(3, 3, 2), 1);
        due(x.element(3, 1), 0);
        due(x.put(3, 2, 1), NO_PLACE);
        due(x.row(5, 2, 60), 1);
        due(x.put(5, 59, 7), 1);
        due(x.element(5, 59), 7);
    }

    private static void put() {
        says(38, "what is put in keeps its lowest bits (a boolean: whether it is not 0; 1 or 0)");
        long[] values = {0, 1, -1, 2, 127, 128, -128, -129, 255, 256, 32767, 32768, -32768, -32769, 65535, 65536, MAX, MAX + 1L, MIN, MIN - 1L,
            0xffffffffL, 1L << 32, 1L << 63, Long.MAX_VALUE, Long.MIN_VALUE, 0x123456789abcdef0L};
        for (int sort = 0; sort <= 4; sort++) {
            Hall x = new Hall();
            x.row(0, sort, 3);
            for (long v : values) {
                long want = sort == 0 ? (byte) v : sort == 1 ? (short) v : sort == 2 ? (int) v : sort == 3 ? v : v != 0 ? 1 : 0;
                due(x.put(0, 1, v), 1);
                due(x.element(0, 1), want);
            }
            due(x.element(0, 0), 0);
            due(x.element(0, 2), 0);
        }
        says(38, "Element i of a ROW becomes v: 1. BAD, -11, -12, -13");
        Hall x = Hall.with(1);
        x.peace(0, 0, 0, 0);
        for (int peg : NO_PEGS) due(x.put(peg, 0, 1), BAD);
        for (int peg = 0; peg < 6; peg++) for (int i : new int[] {MIN, -1, 0, 60, MAX}) due(x.put(peg, i, 1), NOTHING);
        x.keep(0, 0);
        for (int i : new int[] {MIN, -1, 0, 60, MAX}) due(x.put(0, i, 1), OTHER_KIND);
        for (int length : new int[] {0, 1, 60}) {
            x.row(0, 2, length);
            for (int i : new int[] {MIN, -1, length, length + 1, 60, MAX}) due(x.put(0, i, 1), NO_PLACE);
            if (length > 0) due(x.put(0, length - 1, 9), 1);
            if (length > 0) due(x.put(0, 0, 8), 1);
        }
        due(x.element(0, 0), 8);
        due(x.element(0, 59), 9);
    }

    private static void element() {
        says(39, "Element i of a ROW; Long.MIN_VALUE: BAD, -11 to -13");
        Hall x = Hall.with(1);
        x.peace(0, 0, 0, 0);
        for (int peg : NO_PEGS) due(x.element(peg, 0), NO_ELEMENT);
        for (int peg = 0; peg < 6; peg++) due(x.element(peg, 0), NO_ELEMENT);
        x.keep(0, 0);
        due(x.element(0, 0), NO_ELEMENT);
        for (int length : new int[] {0, 1, 60}) {
            x.row(0, 3, length);
            for (int i : new int[] {MIN, -1, length, length + 1, 60, MAX}) due(x.element(0, i), NO_ELEMENT);
            if (length > 0) due(x.element(0, length - 1), 0);
            if (length > 0) due(x.element(0, 0), 0);
        }
        says(39, "an element that is Long.MIN_VALUE itself, and the one next to it");
        due(x.put(0, 59, Long.MIN_VALUE), 1);
        due(x.element(0, 59), Long.MIN_VALUE);
        due(x.element(0, 58), 0);
        due(x.put(0, 59, Long.MIN_VALUE + 1), 1);
        due(x.element(0, 59), Long.MIN_VALUE + 1);
    }

    /** A row of ints 1, 2, 3 and so on. */
    private static void counting(Hall x, int peg, int n) {
        x.row(peg, 2, n);
        for (int i = 0; i < n; i++) x.put(peg, i, i + 1);
    }

    private static void elements(Hall x, int peg, int... want) {
        for (int i = 0; i < want.length; i++) due(x.element(peg, i), want[i]);
        due(x.element(peg, want.length), NO_ELEMENT);
    }

    private static void shift() {
        says(40, "n elements of a ROW from i on come to another one (or the same) from j on, as they all were before: n");
        Hall x = new Hall();
        counting(x, 0, 5);
        due(x.shift(0, 0, 0, 0, 5), 5);
        elements(x, 0, 1, 2, 3, 4, 5);
        due(x.shift(0, 0, 0, 1, 4), 4);
        elements(x, 0, 1, 1, 2, 3, 4);
        counting(x, 0, 5);
        due(x.shift(0, 1, 0, 0, 4), 4);
        elements(x, 0, 2, 3, 4, 5, 5);
        counting(x, 0, 5);
        due(x.shift(0, 4, 0, 0, 1), 1);
        elements(x, 0, 5, 2, 3, 4, 5);
        counting(x, 1, 3);
        due(x.shift(0, 2, 1, 0, 3), 3);
        elements(x, 1, 3, 4, 5);
        elements(x, 0, 5, 2, 3, 4, 5);
        due(x.shift(1, 1, 0, 4, 1), 1);
        elements(x, 0, 5, 2, 3, 4, 4);
        says(40, "-13: a place that is not there");
        int[][] none = {{-1, 0, 1}, {0, -1, 1}, {-1, -1, 1}, {5, 0, 1}, {0, 3, 1}, {4, 0, 2}, {0, 2, 2}, {0, 0, 4}, {2, 0, 4}, {6, 0, 0}, {0, 4, 0}, {-1, 0, 0}, {0, -1, 0},
            {MAX, 0, 1}, {0, MAX, 1}, {1, 0, MAX}, {MAX, MAX, MAX}, {MIN, 0, 1}, {0, MIN, 1}, {MAX, 0, MIN}, {0, 0, 6}, {2, 2, -1}, {0, 0, MIN}};
        for (int[] s : none) due(x.shift(0, s[0], 1, s[1], s[2]), NO_PLACE);
        elements(x, 0, 5, 2, 3, 4, 4);
        elements(x, 1, 3, 4, 5);
        says(40, "n elements: none, where a ROW ends, and of ROWS of none");
        due(x.shift(0, 0, 1, 0, 0), 0);
        due(x.shift(0, 5, 1, 3, 0), 0);
        x.row(2, 2, 0);
        due(x.shift(2, 0, 0, 5, 0), 0);
        due(x.shift(2, 0, 2, 0, 0), 0);
        due(x.shift(2, 0, 0, 0, 1), NO_PLACE);
        due(x.shift(0, 0, 2, 0, 1), NO_PLACE);
        due(x.shift(2, 1, 2, 0, 0), NO_PLACE);
        elements(x, 0, 5, 2, 3, 4, 4);
    }

    private static void shiftWhole() {
        says(40, "of 0 .. 60 elements: a whole ROW, of each sort");
        for (int sort = 0; sort <= 4; sort++) {
            Hall x = new Hall();
            x.row(0, sort, 60);
            x.row(5, sort, 60);
            x.put(0, 0, -1);
            x.put(0, 59, -1);
            due(x.shift(0, 0, 5, 0, 60), 60);
            due(x.element(5, 0), sort == 4 ? 1 : -1);
            due(x.element(5, 1), 0);
            due(x.element(5, 59), sort == 4 ? 1 : -1);
            due(x.shift(0, 0, 5, 0, 61), NO_PLACE);
            due(x.shift(0, 0, 5, 1, 60), NO_PLACE);
            due(x.shift(0, 1, 5, 0, 60), NO_PLACE);
            due(x.shift(0, 1, 5, 0, 59), 59);
            due(x.element(5, 58), sort == 4 ? 1 : -1);
            due(x.element(5, 0), 0);
        }
        says(40, "BAD, -11 (either), -12 (no ROWS, or of unlike sorts), -13, of several the one named first");
        Hall x = Hall.with(1);
        x.peace(0, 0, 0, 0);
        x.row(0, 2, 5);
        x.keep(1, 0);
        x.row(3, 3, 5);
        x.row(4, 0, 5);
        for (int peg : NO_PEGS) {
            due(x.shift(peg, 0, 0, 0, 1), BAD);
            due(x.shift(0, 0, peg, 0, 1), BAD);
            due(x.shift(peg, 0, 2, 0, 1), BAD);
            due(x.shift(2, -1, peg, 0, 1), BAD);
        }
        int[][] nothing = {{2, 0}, {0, 2}, {2, 2}, {1, 2}, {2, 1}, {2, 5}};
        for (int[] pegs : nothing) for (int i = -1; i <= 0; i++) due(x.shift(pegs[0], i, pegs[1], 0, 1), NOTHING);
        int[][] unlike = {{1, 0}, {0, 1}, {1, 1}, {0, 3}, {3, 0}, {0, 4}, {4, 3}};
        for (int[] pegs : unlike) for (int i = -1; i <= 0; i++) due(x.shift(pegs[0], i, pegs[1], 0, 1), OTHER_KIND);
        due(x.shift(0, 0, 3, 0, 0), OTHER_KIND);
        due(x.shift(0, 0, 0, 0, 6), NO_PLACE);
        due(x.shift(0, 0, 0, 0, 5), 5);
    }

    private static void taken() {
        says(41, "What a PEG holds, taken for a PEACE of KIND k (0 .. 6; as it is now), or under it: its KIND");
        Hall x = kinds();
        int[] above = {-1, 0, 1, 0, 0, 4, 0};
        for (int kind = 0; kind <= 6; kind++) {
            x.keep(0, kind);
            for (int k = 0; k <= 6; k++) {
                boolean under = false;
                for (int at = kind; at >= 0; at = above[at]) under |= at == k;
                due(x.taken(0, k), under ? kind : OTHER_KIND);
            }
            for (int k : new int[] {MIN, -1, 7, MAX}) due(x.taken(0, k), BAD);
        }
        says(41, "as it is now");
        x.keep(0, 2);
        due(x.taken(0, 1), 2);
        due(x.taken(0, 6), OTHER_KIND);
        x.strike(1, 3, 15, 1);
        due(x.taken(0, 0), 6);
        due(x.taken(0, 1), OTHER_KIND);
        due(x.taken(0, 2), OTHER_KIND);
        due(x.taken(0, 6), 6);
        for (int i = 0; i < 4; i++) x.undo();
        due(x.ofPeace(2, 0), 2);
        due(x.taken(0, 1), 2);
        due(x.taken(0, 6), OTHER_KIND);
        says(41, "BAD, -11, -12");
        for (int peg : NO_PEGS) due(x.taken(peg, 0), BAD);
        for (int k = 0; k <= 6; k++) due(x.taken(5, k), NOTHING);
        due(x.taken(5, 7), BAD);
        due(x.taken(5, -1), BAD);
        for (int sort = 0; sort <= 4; sort++) {
            x.row(5, sort, sort);
            for (int k = 0; k <= 6; k++) due(x.taken(5, k), OTHER_KIND);
            due(x.taken(5, 7), BAD);
        }
    }

    private static void count() {
        says(42, "0 PEOPLE, 1 KIN, 2 FEUDS, 3 PEACES, 4 bytes on THE TAPE, 5 changes, 6 dead, 7 bodies. BAD");
        Hall x = new Hall();
        for (int what : new int[] {MIN, -1, 8, 9, MAX}) due(x.count(what), BAD);
        for (int what = 0; what <= 7; what++) due(x.count(what), 0);
        says(42, "as many as there can be");
        for (int i = 0; i < 32; i++) x.person(-1, 5, 0);
        for (int i = 0; i < 31; i++) x.kin(i, i + 1);
        for (int i = 0; i < 29; i++) x.kin(i, i + 2);
        for (int i = 0; i < 40; i++) x.feud(1, 0, 0);
        for (int i = 0; i < 60; i++) x.peace(5, 0, 0, 0);
        x.tell(0, "1");
        for (int i = 0; i < 30; i++) x.feed(4, 0);
        for (int i = 0; i < 39; i++) x.pay(i, 0);
        x.pay(39, 0);
        x.pay(39, 1);
        x.strike(1, 0xffffffffL, 1, 1);
        x.act(59, 3, 0);
        int[] want = {32, 60, 40, 60, 120, 40, 31, 7};
        for (int what = 0; what <= 7; what++) due(x.count(what), want[what]);
        x.person(-1, 5, 0);
        x.kin(0, 31);
        x.feud(1, 0, 0);
        x.peace(5, 0, 0, 0);
        x.feed(1, 0);
        for (int what = 0; what <= 7; what++) due(x.count(what), want[what]);
        for (int what : new int[] {MIN, -1, 8, 9, MAX}) due(x.count(what), BAD);
        says(42, "5 changes that may be UNDONE");
        x.undo();
        due(x.count(5), 39);
        x.redo();
        due(x.count(5), 40);
        for (int i = 0; i < 41; i++) x.undo();
        due(x.count(5), 0);
        says(42, "4 bytes on THE TAPE; 7 bodies that ran in the latest act()");
        x.custom(0);
        due(x.count(4), 0);
        x.act(0, 0, 0);
        due(x.count(7), 3);
        x.act(60, 0, 0);
        due(x.count(7), 0);
    }

    public static void main(String[] args) {
        acts();
        noActs();
        traces();
        keep();
        row();
        put();
        element();
        shift();
        shiftWhole();
        taken();
        count();
        end();
    }
}
