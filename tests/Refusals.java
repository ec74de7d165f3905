/** Of each call each answer by which it is refused: "What is answered so changes nothing." */
public final class Refusals extends Bounds {
    private static final int[] NO_PEOPLE = {MIN, -1, 7, 32, MAX};
    private static final int[] NO_HOURS = {MIN, -1, 2400, MAX};
    private static final int[] NO_BITS = {MIN, -1, 2, MAX};
    private static final int[] NO_PEGS = {MIN, -1, 6, MAX};
    private static final int[] NO_PAIRS = {MIN, -100, -1, 0, 101, 606, 7, 700, 107, 99, 10001, MAX};
    private static final int[] NO_SPANS = {MIN, -1, 48, 2400, 10000, 23512399, 24002400, MAX};
    /** Sets with bits of nobody. */
    private static final long[] NO_SETS = {128, 255, 1L << 32 | 126, 1L << 63 | 126, -1, Long.MIN_VALUE, Long.MAX_VALUE};

    private static void people() {
        says(2, "person: BAD");
        for (int lord : new int[] {MIN, -2, 7, MAX}) Twins.refused(BAD, x -> x.person(lord, 5, 0));
        for (int weight : new int[] {MIN, 0, 100, MAX}) Twins.refused(BAD, x -> x.person(-1, weight, 0));
        for (int sword : NO_BITS) Twins.refused(BAD, x -> x.person(-1, 5, sword));
        says(2, "person: FULL");
        Twins.refusedWhenFull(FULL, x -> x.person(-1, 5, 0));
        Twins.refusedWhenFull(BAD, x -> x.person(32, 5, 0));
        says(3, "people: BAD, -12; 0 of them");
        for (int peg : NO_PEGS) Twins.refused(BAD, x -> x.people(peg, 0, 1));
        for (int n : new int[] {MIN, -1, 0, 21, MAX}) Twins.refused(BAD, x -> x.people(0, 0, n));
        for (int peg : new int[] {1, 2, 3, 5}) Twins.refused(OTHER_KIND, x -> x.people(peg, 0, 1));
        Twins.refused(0, x -> x.people(4, 0, 1));
        for (int i : new int[] {MIN, -1, 1, 5, 6, 7, MAX}) Twins.refused(0, x -> x.people(0, i, 1));
        says(4, "of: BAD");
        for (int p : NO_PEOPLE) Twins.refused(BAD, x -> x.of(p, 0));
        for (int what : new int[] {MIN, -1, 4, MAX}) Twins.refused(BAD, x -> x.of(1, what));
        says(5, "sword: BAD");
        for (int p : NO_PEOPLE) Twins.refused(BAD, x -> x.sword(p, 1));
        for (int v : NO_BITS) Twins.refused(BAD, x -> x.sword(1, v));
    }

    private static void kinAndFeuds() {
        says(6, "kin: BAD (one and the same, told)");
        for (int p : NO_PEOPLE) Twins.refused(BAD, x -> x.kin(p, 1));
        for (int p : NO_PEOPLE) Twins.refused(BAD, x -> x.kin(1, p));
        for (int p = 0; p < 7; p++) {
            int one = p;
            Twins.refused(BAD, x -> x.kin(one, one));
        }
        Twins.refused(BAD, x -> x.kin(1, 2));
        Twins.refused(BAD, x -> x.kin(5, 4));
        says(6, "kin: FULL");
        Twins.refusedWhenFull(FULL, x -> x.kin(29, 31));
        Twins.refusedWhenFull(BAD, x -> x.kin(0, 1));
        says(7, "steps: BAD; NOT");
        for (int p : NO_PEOPLE) Twins.refused(BAD, x -> x.steps(p, 1));
        for (int p : NO_PEOPLE) Twins.refused(BAD, x -> x.steps(1, p));
        Twins.refused(NOT, x -> x.steps(0, 6));
        says(8, "feud: BAD (one and the same)");
        for (int pq : NO_PAIRS) Twins.refused(BAD, x -> x.feud(pq, 0, 0));
        for (int hour : NO_HOURS) Twins.refused(BAD, x -> x.feud(1, hour, 0));
        for (int bp : new int[] {MIN, -1, 4000, MAX}) Twins.refused(BAD, x -> x.feud(1, 0, bp));
        says(8, "feud: FULL");
        Twins.refusedWhenFull(FULL, x -> x.feud(1, 0, 0));
        Twins.refusedWhenFull(BAD, x -> x.feud(0, 0, 0));
        says(9, "pay: BAD");
        for (int feud : new int[] {MIN, -1, 3, 40, MAX}) Twins.refused(BAD, x -> x.pay(feud, 0));
        for (int v : new int[] {MIN, -1, 2401, MAX}) Twins.refused(BAD, x -> x.pay(0, v));
        Twins.refusedWhenFull(BAD, x -> x.pay(40, 0));
        says(10, "near: BAD; NOT");
        for (int p : NO_PEOPLE) Twins.refused(BAD, x -> x.near(p, 1, 0, 0));
        for (int p : NO_PEOPLE) Twins.refused(BAD, x -> x.near(1, p, 0, 0));
        for (int hour : NO_HOURS) Twins.refused(BAD, x -> x.near(1, 4, hour, 0));
        for (int what : NO_BITS) Twins.refused(BAD, x -> x.near(1, 4, 0, what));
        Twins.refused(NOT, x -> x.near(1, 4, 9, 0));
        Twins.refused(NOT, x -> x.near(1, 1, 10, 1));
    }

    private static void peaces() {
        says(11, "peace: BAD");
        for (int gk : new int[] {MIN, -1, 6, 9, 70, 320, MAX}) Twins.refused(BAD, x -> x.peace(gk, 0, 0, 0));
        for (long covers : new long[] {-1, 1L << 32, Long.MIN_VALUE, Long.MAX_VALUE}) Twins.refused(BAD, x -> x.peace(1, covers, 0, 0));
        for (int from : new int[] {MIN, -1, 2400, 10000, 24002400, MAX}) Twins.refused(BAD, x -> x.peace(1, 0, from, 0));
        for (int behind : new int[] {MIN, -1, 241, MAX}) Twins.refused(BAD, x -> x.peace(2, 0, 0, behind));
        says(11, "peace: FULL");
        Twins.refusedWhenFull(FULL, x -> x.peace(1, 3, 0, 0));
        Twins.refusedWhenFull(BAD, x -> x.peace(6, 3, 0, 0));
        says(12, "ofPeace: BAD");
        for (int peace : new int[] {MIN, -1, 6, 60, MAX}) Twins.refused(BAD, x -> x.ofPeace(peace, 0));
        for (int what : new int[] {MIN, -1, 6, MAX}) Twins.refused(BAD, x -> x.ofPeace(0, what));
        says(13, "cover: BAD");
        for (int peace : new int[] {MIN, -1, 6, 60, MAX}) Twins.refused(BAD, x -> x.cover(peace, 1, 1));
        for (int p : NO_PEOPLE) Twins.refused(BAD, x -> x.cover(0, p, 1));
        for (int v : NO_BITS) Twins.refused(BAD, x -> x.cover(0, 1, v));
        Twins.refusedWhenFull(BAD, x -> x.cover(60, 0, 1));
        Twins.refusedWhenFull(BAD, x -> x.cover(59, 32, 1));
        says(14, "holds: BAD (one and the same)");
        for (int peace : new int[] {MIN, -1, 6, 60, MAX}) Twins.refused(BAD, x -> x.holds(peace, 1, 0));
        for (int pq : NO_PAIRS) Twins.refused(BAD, x -> x.holds(0, pq, 0));
        for (int hour : NO_HOURS) Twins.refused(BAD, x -> x.holds(0, 1, hour));
        says(15, "between: BAD");
        for (int pq : NO_PAIRS) Twins.refused(BAD, x -> x.between(pq, 0));
        for (int hour : NO_HOURS) Twins.refused(BAD, x -> x.between(1, hour));
        says(16, "proof: BAD; NOT");
        for (int pq : NO_PAIRS) Twins.refused(BAD, x -> x.proof(pq, 0));
        for (int hour : NO_HOURS) Twins.refused(BAD, x -> x.proof(1, hour));
        Twins.refused(NOT, x -> x.proof(104, 60));
        Twins.refused(NOT, x -> x.proof(105, 35));
    }

    private static void tape() {
        says(17, "feed: BAD");
        for (int n : new int[] {MIN, -1, 0, 5, MAX}) Twins.refused(BAD, x -> x.feed(n, 'f'));
        says(17, "feed: FULL");
        for (int n = 1; n <= 4; n++) {
            int bytes = n;
            Twins.refusedWhenFull(FULL, x -> x.feed(bytes, '1'));
        }
        Twins.refusedWhenFull(BAD, x -> x.feed(0, '1'));
        says(18, "custom: BAD (it stays)");
        for (int use : NO_BITS) Twins.refused(BAD, x -> x.custom(use));
        Twins.refusedWhenFull(BAD, x -> x.custom(2));
        says(18, "custom: -100 less its FAULT: nothing but the tape");
        // an empty tape is as good as one that was emptied, so the twin's is filled anew
        for (int use = 0; use <= 1; use++) {
            int of = use;
            Twins.quiet(x -> { int fault = x.custom(of); x.tape("f&"); return fault; });
        }
        says(19, "must: VOID");
        for (int pq : NO_PAIRS) Twins.refused(VOID, x -> x.must(pq, 127, 0));
        for (long there : NO_SETS) Twins.refused(VOID, x -> x.must(104, there, 0));
        for (long there : new long[] {0, 2, 16, 108}) Twins.refused(VOID, x -> x.must(104, there, 0));
        for (int hour : NO_HOURS) Twins.refused(VOID, x -> x.must(104, 127, hour));
        Twins.refused(VOID, x -> x.must(4, 127, 0));
        Twins.refused(VOID, x -> x.must(400, 127, 0));
    }

    private static void together() {
        says(20, "together: NOT, BAD");
        for (long there : NO_SETS) Twins.refused(BAD, x -> x.together(there, 0, 0));
        for (int span : NO_SPANS) Twins.refused(BAD, x -> x.together(126, span, 0));
        for (int what : new int[] {MIN, -1, 3, MAX}) Twins.refused(BAD, x -> x.together(126, 0, what));
        Twins.refused(NOT, x -> x.together(0, 47, 0));
        Twins.refused(NOT, x -> x.together(3, 47, 0));
        says(21, "bars: BAD (one and the same)");
        for (int pq : NO_PAIRS) Twins.refused(BAD, x -> x.bars(pq, 0));
        for (int span : NO_SPANS) Twins.refused(BAD, x -> x.bars(104, span));
        says(22, "most: NOT; BAD");
        for (long told : NO_SETS) Twins.refused(BAD, x -> x.most(told, 0, 0));
        for (int span : NO_SPANS) Twins.refused(BAD, x -> x.most(126, 0, span));
        for (long refuse : new long[] {1, 64, 65, 128, -1, 1L << 32}) Twins.refused(BAD, x -> x.most(62, refuse, 0));
        for (long told : new long[] {0, 1}) Twins.refused(BAD, x -> x.most(told, 0, 0));
        Twins.refused(NOT, x -> x.most(126, 18, 410060));
        Twins.refusedWhenFull(BAD, x -> x.most(8191, 0, 0));
        says(23, "rooms: BAD");
        for (long told : NO_SETS) Twins.refused(BAD, x -> x.rooms(told, 0, 0));
        for (long told : new long[] {0, 1}) Twins.refused(BAD, x -> x.rooms(told, 0, 0));
        for (int span : NO_SPANS) Twins.refused(BAD, x -> x.rooms(126, span, 0));
        for (int what : NO_BITS) Twins.refused(BAD, x -> x.rooms(126, 0, what));
        Twins.refusedWhenFull(BAD, x -> x.rooms(8191, 0, 0));
        says(24, "buy: BAD; NOT");
        for (long told : NO_SETS) Twins.refused(BAD, x -> x.buy(told, 0, 0));
        for (long told : new long[] {0, 1}) Twins.refused(BAD, x -> x.buy(told, 0, 0));
        for (int span : NO_SPANS) Twins.refused(BAD, x -> x.buy(126, span, 0));
        for (int what : NO_BITS) Twins.refused(BAD, x -> x.buy(126, 0, what));
        Twins.refused(NOT, x -> x.buy(56, 410060, 0));
        Twins.refusedWhenFull(BAD, x -> x.buy(8191, 0, 0));
    }

    private static void leaving() {
        says(25, "road: BAD");
        for (int p : NO_PEOPLE) Twins.refused(BAD, x -> x.road(p, 1));
        for (int v : new int[] {MIN, -1, 4, MAX}) Twins.refused(BAD, x -> x.road(1, v));
        says(26, "leave: NOT. BAD");
        for (long told : NO_SETS) Twins.refused(BAD, x -> x.leave(told, 0, 100));
        for (long told : new long[] {0, 1}) Twins.refused(BAD, x -> x.leave(told, 0, 100));
        for (int hour : NO_HOURS) Twins.refused(BAD, x -> x.leave(6, hour, 100));
        for (int sf : new int[] {MIN, -1, 0, 99, 2500, MAX}) Twins.refused(BAD, x -> x.leave(6, 0, sf));
        Twins.refused(NOT, x -> x.leave(18, 70, 105));
        Twins.refusedWhenFull(BAD, x -> x.leave(127, 0, 100));
    }

    private static void blows() {
        says(27, "strike: BAD (one and the same, dead, not THERE)");
        for (int deed = 0; deed <= 1; deed++) {
            int of = deed;
            for (int pq : NO_PAIRS) Twins.refused(BAD, x -> x.strike(pq, 127, 0, of));
            for (long there : NO_SETS) Twins.refused(BAD, x -> x.strike(104, there, 0, of));
            for (long there : new long[] {0, 2, 16, 108}) Twins.refused(BAD, x -> x.strike(104, there, 0, of));
            for (int hour : NO_HOURS) Twins.refused(BAD, x -> x.strike(104, 127, hour, of));
            for (int pq : new int[] {1, 100}) Twins.refused(BAD, x -> x.strike(pq, 127, 0, of));
        }
        for (int deed : NO_BITS) Twins.refused(BAD, x -> x.strike(104, 127, 0, deed));
        says(28, "blow: BAD");
        for (int i : new int[] {MIN, -1, 5, 31, MAX}) Twins.refused(BAD, x -> x.blow(i));
        says(30, "worst: NOT. BAD");
        for (long there : NO_SETS) Twins.refused(BAD, x -> x.worst(there, 0));
        for (int hour : NO_HOURS) Twins.refused(BAD, x -> x.worst(126, hour));
        for (long there : new long[] {0, 1, 2, 3}) Twins.refused(NOT, x -> x.worst(there, 60));
        says(31, "wed: BAD (one and the same, KIN)");
        for (int pq : NO_PAIRS) Twins.refused(BAD, x -> x.wed(pq, 0, 0));
        for (int pq : new int[] {102, 201, 304, 504}) Twins.refused(BAD, x -> x.wed(pq, 0, 0));
        for (int hour : NO_HOURS) Twins.refused(BAD, x -> x.wed(103, hour, 0));
        for (int what : NO_BITS) Twins.refused(BAD, x -> x.wed(103, 0, what));
        says(32, "undo, redo: STATE");
        Twins.refusedWhenFull(STATE, x -> x.redo());
        Hall x = new Hall();
        for (int i = 0; i < 3; i++) {
            due(x.undo(), STATE);
            due(x.redo(), STATE);
        }
        x.person(-1, 5, 0);
        due(x.sword(0, 1), 0);
        due(x.redo(), STATE);
        due(x.undo(), 0);
        due(x.undo(), STATE);
        due(x.undo(), STATE);
        due(x.redo(), 0);
        due(x.of(0, 2), 1);
    }

    private static void pegs() {
        says(35, "trace: BAD");
        for (int i : new int[] {MIN, -1, 7, 24, MAX}) Twins.refused(BAD, x -> x.trace(i));
        says(36, "keep: BAD");
        for (int peg : NO_PEGS) Twins.refused(BAD, x -> x.keep(peg, 0));
        for (int peg : NO_PEGS) Twins.refused(BAD, x -> x.keep(peg, -1));
        for (int peace : new int[] {MIN, -2, 6, 60, MAX}) for (int peg : new int[] {0, 3, 4}) Twins.refused(BAD, x -> x.keep(peg, peace));
        says(37, "row: BAD (sort, n above 60); -14");
        for (int peg : NO_PEGS) Twins.refused(BAD, x -> x.row(peg, 0, 1));
        for (int peg : new int[] {0, 3, 4}) {
            for (int sort : new int[] {MIN, -1, 5, MAX}) Twins.refused(BAD, x -> x.row(peg, sort, 1));
            for (int n : new int[] {61, MAX}) Twins.refused(BAD, x -> x.row(peg, 0, n));
            for (int n : new int[] {-1, MIN}) Twins.refused(SIZE_BELOW, x -> x.row(peg, 0, n));
        }
        says(38, "put: BAD, -11, -12, -13");
        for (int peg : NO_PEGS) Twins.refused(BAD, x -> x.put(peg, 0, 5));
        Twins.refused(NOTHING, x -> x.put(4, 0, 5));
        Twins.refused(OTHER_KIND, x -> x.put(3, 0, 5));
        for (int i : new int[] {MIN, -1, 7, 60, MAX}) Twins.refused(NO_PLACE, x -> x.put(0, i, 5));
        Twins.refused(NO_PLACE, x -> x.put(5, 0, 5));
        says(39, "element: Long.MIN_VALUE");
        for (int peg : NO_PEGS) Twins.refused(Long.MIN_VALUE, x -> x.element(peg, 0));
        for (int peg : new int[] {3, 4, 5}) Twins.refused(Long.MIN_VALUE, x -> x.element(peg, 0));
        for (int i : new int[] {MIN, -1, 7, 60, MAX}) Twins.refused(Long.MIN_VALUE, x -> x.element(0, i));
    }

    private static void shifts() {
        says(40, "shift: BAD, -11 (either), -12 (no ROWS, or of unlike sorts), -13");
        for (int peg : NO_PEGS) Twins.refused(BAD, x -> x.shift(peg, 0, 0, 0, 1));
        for (int peg : NO_PEGS) Twins.refused(BAD, x -> x.shift(0, 0, peg, 0, 1));
        for (int peg : new int[] {0, 3, 4}) {
            Twins.refused(NOTHING, x -> x.shift(peg, 0, 4, 0, 1));
            Twins.refused(NOTHING, x -> x.shift(4, 0, peg, 0, 1));
        }
        for (int peg : new int[] {1, 2, 3, 5}) {
            Twins.refused(OTHER_KIND, x -> x.shift(peg, 0, 0, 0, 1));
            Twins.refused(OTHER_KIND, x -> x.shift(0, 0, peg, 0, 1));
        }
        int[][] places = {{-1, 0, 1}, {0, -1, 1}, {0, 0, 8}, {1, 0, 7}, {0, 1, 7}, {7, 0, 1}, {0, 7, 1}, {8, 0, 0}, {0, 8, 0}, {0, 0, -1}, {3, 3, MIN}, {MAX, 0, 1}, {1, 1, MAX}};
        for (int[] p : places) Twins.refused(NO_PLACE, x -> x.shift(0, p[0], 0, p[1], p[2]));
        says(41, "taken: BAD, -11, -12");
        for (int peg : NO_PEGS) Twins.refused(BAD, x -> x.taken(peg, 0));
        for (int k : new int[] {MIN, -1, 7, MAX}) Twins.refused(BAD, x -> x.taken(3, k));
        Twins.refused(NOTHING, x -> x.taken(4, 0));
        Twins.refused(OTHER_KIND, x -> x.taken(0, 0));
        Twins.refused(OTHER_KIND, x -> x.taken(3, 6));
        says(42, "count: BAD");
        for (int what : new int[] {MIN, -1, 8, MAX}) Twins.refused(BAD, x -> x.count(what));
    }

    private static void inThought() {
        says(27, "in thought: all is as before");
        // the latest row is another one then, so the twin's is told anew
        Twins.quiet(x -> { x.strike(405, 126, 35, 0); return x.strike(104, 126, 60, 0); });
        Twins.quiet(x -> { x.strike(301, 126, 15, 0); return x.strike(104, 126, 60, 0); });
        says(30, "(The latest ROW stays.)");
        Twins.quiet(x -> x.worst(126, 35));
        says(31, "WED: in thought");
        for (int what = 0; what <= 1; what++) {
            int of = what;
            Twins.quiet(x -> x.wed(106, 30, of));
        }
        says(24, "BUY, THE MOST, TWO ROOMS, LEAVE: asked, not done");
        Twins.quiet(x -> x.buy(38, 10, 0));
        Twins.quiet(x -> x.buy(18, 410060, 1));
        Twins.quiet(x -> x.most(126, 2, 100020));
        Twins.quiet(x -> x.rooms(126, 100020, 1));
        Twins.quiet(x -> x.leave(126, 10, 203));
        Twins.quiet(x -> x.together(126, 100047, 0));
        Twins.quiet(x -> x.bars(104, 100047));
        Twins.quiet(x -> x.must(104, 126, 20));
        Twins.quiet(x -> x.holds(0, 105, 20));
        Twins.quiet(x -> x.between(105, 20));
        Twins.quiet(x -> x.proof(105, 20));
        Twins.quiet(x -> x.near(1, 4, 20, 0));
        says(33, "telling the same number is none (CHANGE)");
        Twins.quiet(x -> x.sword(1, 1));
        Twins.quiet(x -> x.pay(1, 50));
        Twins.quiet(x -> x.cover(0, 6, 1));
        Twins.quiet(x -> { x.undo(); return x.redo(); });
        Twins.quiet(x -> { x.redo(); return x.undo(); });
    }

    public static void main(String[] args) {
        people();
        kinAndFeuds();
        peaces();
        tape();
        together();
        leaving();
        blows();
        pegs();
        shifts();
        inThought();
        end();
    }
}
