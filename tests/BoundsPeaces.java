/** The boundary cases of section 2 and of promises 11 to 16: peaces. */
public final class BoundsPeaces extends Bounds {
    private static final long ALL = 0xffffffffL;
    private static final int PEACE = 0, HEARTH = 1, SALT = 2, ROAD = 3, BOUGHT = 4, KING = 5;

    private static void giverAndKind() {
        says(11, "A PEACE of a KIND (0 .. 5); gk: 10 times the GIVER and the KIND. BAD");
        Hall x = new Hall();
        due(x.peace(0, 0, 0, 0), BAD);
        x.person(-1, 5, 0);
        x.person(-1, 5, 0);
        for (int gk : new int[] {6, 7, 9, 16, 19, 20, 25, 315, 320, MAX, -1, -5, -10, -11, MIN}) due(x.peace(gk, 0, 0, 0), BAD);
        due(x.count(3), 0);
        for (int kind = 0; kind <= 5; kind++) {
            due(x.peace(10 + kind, 0, 0, 0), kind);
            due(x.ofPeace(kind, 0), kind);
            due(x.ofPeace(kind, 1), 1);
        }
        Hall y = Hall.with(32);
        due(y.peace(315, 0, 0, 0), 0);
        due(y.ofPeace(0, 1), 31);
        due(y.peace(316, 0, 0, 0), BAD);
        due(y.peace(320, 0, 0, 0), BAD);
        says(11, "PEACES 0 .. 59, as they come; FULL");
        for (int i = 0; i < 54; i++) due(x.peace(i % 6, i, 0, 0), 6 + i);
        due(x.peace(0, 0, 0, 0), FULL);
        due(x.peace(15, ALL, 23992399, 240), FULL);
        due(x.count(3), 60);
        due(x.ofPeace(59, 0), 5);
        due(x.ofPeace(60, 0), BAD);
        says(11, "of several the one named first: BAD, FULL");
        due(x.peace(6, 0, 0, 0), BAD);
        due(x.peace(20, 0, 0, 0), BAD);
        due(x.peace(0, -1, 0, 0), BAD);
        due(x.peace(0, 0, 10000, 0), BAD);
        due(x.peace(0, 0, 0, 241), BAD);
        due(x.count(3), 60);
    }

    private static void covered() {
        says(11, "whom it COVERS (bits of PEOPLE); covers may name those to come");
        Hall x = Hall.with(1);
        for (long covers : new long[] {-1, Long.MIN_VALUE, 1L << 32, 1L << 32 | 1, 1L << 63 | 1, 1L << 62, Long.MAX_VALUE}) due(x.peace(0, covers, 0, 0), BAD);
        due(x.count(3), 0);
        due(x.peace(BOUGHT, 0, 0, 0), 0);
        due(x.ofPeace(0, 5), 0);
        due(x.peace(BOUGHT, ALL, 0, 0), 1);
        due(x.ofPeace(1, 5), 32);
        due(x.peace(BOUGHT, 1L << 31, 0, 0), 2);
        due(x.ofPeace(2, 5), 1);
        due(x.peace(BOUGHT, 3, 0, 0), 3);
        due(x.holds(3, 1, 0), BAD);
        x.person(-1, 5, 0);
        due(x.holds(3, 1, 0), 1);
        due(x.holds(1, 100, 0), 1);
        due(x.holds(2, 1, 0), 0);
    }

    private static void fromTo() {
        says(11, "from: 10000 times the first HOUR and the last one (not less); HOURS 0 .. 2399");
        Hall x = Hall.with(2);
        int[] wrong = {MIN, -1, -10000, 2400, 9999, 10000, 20001, 23992398, 23992400, 24002400, 24002399, 24000000, 100002399 * 10, MAX};
        for (int from : wrong) due(x.peace(KING, 0, from, 0), BAD);
        due(x.count(3), 0);
        int[][] fine = {{0, 0}, {0, 2399}, {1, 1}, {1, 2399}, {2398, 2399}, {2399, 2399}};
        for (int i = 0; i < fine.length; i++) {
            int first = fine[i][0], last = fine[i][1];
            due(x.peace(KING, 0, 10000 * first + last, 0), i);
            due(x.ofPeace(i, 2), first);
            due(x.ofPeace(i, 3), last);
            due(x.holds(i, 1, first), 1);
            due(x.holds(i, 1, last), 1);
            due(x.holds(i, 1, first - 1), first == 0 ? BAD : 0);
            due(x.holds(i, 1, last + 1), last == 2399 ? BAD : 0);
        }
        says(11, "BEHIND (0 .. 240 hours)");
        Hall y = Hall.with(2);
        for (int kind = 0; kind <= 5; kind++) for (int behind : new int[] {MIN, -1, 241, MAX}) due(y.peace(kind, 3, 0, behind), BAD);
        due(y.count(3), 0);
        for (int kind = 0; kind <= 5; kind++) {
            due(y.peace(kind, 3, 0, 0), 2 * kind);
            due(y.ofPeace(2 * kind, 4), 0);
            due(y.peace(kind, 3, 0, 240), 2 * kind + 1);
            due(y.ofPeace(2 * kind + 1, 4), 240);
        }
    }

    private static void ofPeace() {
        says(12, "0 KIND, 1 GIVER, 2 first HOUR, 3 last, 4 BEHIND, 5 how many it COVERS. BAD");
        Hall x = Hall.with(3);
        due(x.ofPeace(0, 0), BAD);
        x.peace(22, 5, 100020, 30);
        x.peace(3, 0, 400050, 7);
        int[][] want = {{2, 2, 10, 20, 30, 2}, {3, 0, 40, 50, 7, 0}};
        for (int peace = 0; peace < 2; peace++) for (int what = 0; what <= 5; what++) due(x.ofPeace(peace, what), want[peace][what]);
        for (int what : new int[] {MIN, -1, 6, 7, MAX}) due(x.ofPeace(0, what), BAD);
        for (int peace : new int[] {MIN, -1, 2, 59, 60, MAX}) for (int what = 0; what <= 5; what++) due(x.ofPeace(peace, what), BAD);
        says(12, "0 KIND: of one that is broken, 6; all else stays");
        x.strike(200, 5, 15, 1);
        int[] then = {6, 2, 10, 20, 30, 2};
        for (int what = 0; what <= 5; what++) due(x.ofPeace(0, what), then[what]);
        due(x.ofPeace(1, 0), 3);
    }

    private static void cover() {
        says(13, "Whether a PEACE COVERS one becomes v (0, 1): what it was. BAD");
        Hall x = Hall.with(3);
        due(x.cover(0, 0, 1), BAD);
        x.peace(BOUGHT, 1, 10, 0);
        for (int v : new int[] {MIN, -1, 2, MAX}) due(x.cover(0, 1, v), BAD);
        for (int peace : new int[] {MIN, -1, 1, 59, 60, MAX}) due(x.cover(peace, 1, 1), BAD);
        for (int p : new int[] {MIN, -1, 3, 31, 32, MAX}) due(x.cover(0, p, 1), BAD);
        due(x.ofPeace(0, 5), 1);
        due(x.count(5), 0);
        due(x.cover(0, 2, 1), 0);
        due(x.holds(0, 2, 0), 1);
        due(x.cover(0, 0, 0), 1);
        due(x.holds(0, 2, 0), 0);
        due(x.ofPeace(0, 5), 1);
        due(x.count(5), 2);
        says(13, "telling the same number is none (CHANGE)");
        due(x.cover(0, 2, 1), 1);
        due(x.cover(0, 1, 0), 0);
        due(x.count(5), 2);
        says(13, "PEACES 0 .. 59, PEOPLE 0 .. 31: the last of both");
        Hall y = Hall.with(32);
        for (int i = 0; i < 60; i++) y.peace(BOUGHT, 0, 10, 0);
        due(y.cover(59, 31, 1), 0);
        due(y.cover(59, 30, 1), 0);
        due(y.ofPeace(59, 5), 2);
        due(y.ofPeace(58, 5), 0);
        due(y.holds(59, 3031, 0), 1);
        due(y.holds(58, 3031, 0), 0);
        due(y.cover(59, 31, 0), 1);
        due(y.holds(59, 3031, 0), 0);
        due(y.undo(), 2);
        due(y.holds(59, 3130, 0), 1);
        says(13, "covers may name those to come: COVERED they are when they come");
        Hall z = Hall.with(1);
        z.peace(BOUGHT, 2, 10, 0);
        due(z.cover(0, 1, 0), BAD);
        z.person(-1, 5, 0);
        due(z.cover(0, 1, 0), 1);
        due(z.ofPeace(0, 5), 0);
    }

    private static void holdsArguments() {
        says(14, "Whether a PEACE HOLDS between two at an HOUR (1, 0). BAD (one and the same)");
        Hall x = Hall.with(3);
        due(x.holds(0, 1, 0), BAD);
        x.peace(KING, 0, 2399, 0);
        for (int peace : new int[] {MIN, -1, 1, 59, 60, MAX}) due(x.holds(peace, 1, 0), BAD);
        for (int pq : new int[] {0, 101, 202, 303, 3, 300, 99, 10001, MAX, -1, -100, -101, MIN}) due(x.holds(0, pq, 0), BAD);
        for (int hour : new int[] {MIN, -1, 2400, MAX}) due(x.holds(0, 1, hour), BAD);
        for (int pq : new int[] {1, 2, 100, 102, 200, 201}) {
            due(x.holds(0, pq, 0), 1);
            due(x.holds(0, pq, 2399), 1);
        }
    }

    private static void holdsFromTo() {
        says(14, "from its first HOUR to its last one (SALT: and BEHIND hours more)");
        for (int kind = 0; kind <= 5; kind++) {
            for (int behind : new int[] {0, 1, 240}) {
                Hall x = new Hall();
                x.person(-1, 5, 0);
                x.person(0, 5, 0);
                x.peace(kind, 3, 100020, behind);
                int until = kind == SALT ? 20 + behind : 20;
                due(x.holds(0, 1, 9), 0);
                due(x.holds(0, 1, 10), 1);
                due(x.holds(0, 1, 20), 1);
                due(x.holds(0, 1, 21), until >= 21 ? 1 : 0);
                due(x.holds(0, 1, until), 1);
                due(x.holds(0, 1, until + 1), 0);
                due(x.between(1, 9), 0);
                due(x.between(1, until), 1);
                due(x.between(1, until + 1), 0);
            }
        }
        says(14, "SALT: and BEHIND hours more, where HOURS end");
        Hall x = Hall.with(2);
        x.peace(SALT, 3, 23992399, 240);
        x.peace(SALT, 3, 2160, 239);
        x.peace(SALT, 3, 2160, 238);
        due(x.holds(0, 1, 2398), 0);
        due(x.holds(0, 1, 2399), 1);
        due(x.holds(0, 1, 2400), BAD);
        due(x.holds(1, 1, 2399), 1);
        due(x.holds(2, 1, 2398), 1);
        due(x.holds(2, 1, 2399), 0);
    }

    /** All pairs of a giver, one covered, another one covered, and one who is neither. */
    private static void holdsByKind(int kind, String words, int... want) {
        says(14, words);
        Hall x = Hall.with(4);
        x.peace(kind, 0b0110, 10, 0);
        int[] pairs = {1, 2, 3, 102, 103, 203};
        for (int i = 0; i < pairs.length; i++) {
            due(x.holds(0, pairs[i], 5), want[i]);
            due(x.holds(0, pairs[i] % 100 * 100 + pairs[i] / 100, 5), want[i]);
        }
        // the giver is covered, too
        x.cover(0, 0, 1);
        int[] bought = {1, 1, 0, 1, 0, 0};
        for (int i = 0; i < pairs.length; i++) due(x.holds(0, pairs[i], 5), kind == BOUGHT ? bought[i] : kind == ROAD && i == 2 ? 1 : want[i]);
        // nobody is
        for (int p = 0; p < 3; p++) x.cover(0, p, 0);
        for (int pq : pairs) due(x.holds(0, pq, 5), kind == KING ? 1 : 0);
    }

    private static void holdsByKinds() {
        holdsByKind(HEARTH, "HEARTH: both are COVERED, or one is and the other one is the GIVER", 1, 1, 0, 1, 0, 0);
        holdsByKind(SALT, "SALT: both are COVERED, or one is and the other one is the GIVER", 1, 1, 0, 1, 0, 0);
        holdsByKind(ROAD, "ROAD: one at least is COVERED", 1, 1, 0, 1, 1, 1);
        holdsByKind(BOUGHT, "BOUGHT: both are COVERED", 0, 0, 0, 1, 0, 0);
        holdsByKind(KING, "KING: always", 1, 1, 1, 1, 1, 1);
        holdsByKind(PEACE, "PEACE (0): whom it COVERS does not matter", 0, 0, 0, 0, 0, 0);
    }

    private static void holdsByLords() {
        says(14, "PEACE (0): both have the GIVER as LORD, along LORDS of LORDS, too, or are it");
        Hall x = new Hall();
        x.person(-1, 5, 0);
        for (int i = 1; i < 31; i++) x.person(i - 1, 5, 0);
        x.person(-1, 5, 0);
        x.peace(0, 0, 10, 0);
        x.peace(10 * 15, 0, 10, 0);
        x.peace(10 * 30, 0, 10, 0);
        x.peace(10 * 31, 0, 10, 0);
        due(x.holds(0, 1, 5), 1);
        due(x.holds(0, 30, 5), 1);
        due(x.holds(0, 2930, 5), 1);
        due(x.holds(0, 3000, 5), 1);
        due(x.holds(0, 31, 5), 0);
        due(x.holds(0, 3130, 5), 0);
        due(x.holds(1, 1516, 5), 1);
        due(x.holds(1, 1415, 5), 0);
        due(x.holds(1, 1416, 5), 0);
        due(x.holds(1, 3015, 5), 1);
        due(x.holds(1, 3016, 5), 1);
        due(x.holds(1, 30, 5), 0);
        due(x.holds(2, 3029, 5), 0);
        due(x.holds(2, 30, 5), 0);
        due(x.holds(3, 3130, 5), 0);
        says(14, "two who have one LORD, and the LORD beside them");
        Hall y = new Hall();
        y.person(-1, 5, 0);
        y.person(0, 5, 0);
        y.person(0, 5, 0);
        y.person(1, 5, 0);
        y.person(2, 5, 0);
        y.peace(10, 0, 10, 0);
        due(y.holds(0, 103, 5), 1);
        due(y.holds(0, 102, 5), 0);
        due(y.holds(0, 1, 5), 0);
        due(y.holds(0, 304, 5), 0);
    }

    private static void holdsBroken() {
        says(14, "KIND 6 never");
        for (int kind = 0; kind <= 5; kind++) {
            Hall x = new Hall();
            x.person(-1, 5, 0);
            for (int i = 1; i < 4; i++) x.person(0, 5, 0);
            x.tell(0, "0");
            x.tell(1, "0");
            x.peace(kind, 15, 100020, 5);
            due(x.holds(0, 102, 15), 1);
            x.strike(3, 9, 15, 1);
            due(x.ofPeace(0, 0), 6);
            for (int hour : new int[] {9, 10, 15, 20, 21, 25}) {
                due(x.holds(0, 102, hour), 0);
                due(x.holds(0, 1, hour), 0);
                due(x.between(102, hour), 0);
                due(x.proof(102, hour), NOT);
            }
            x.undo();
            due(x.holds(0, 102, 15), 1);
            due(x.holds(0, 102, 25), kind == SALT ? 1 : 0);
        }
    }

    private static void between() {
        says(15, "How many PEACES HOLD between two at an HOUR. BAD");
        Hall x = Hall.with(3);
        for (int pq : new int[] {0, 101, 3, 300, 99, MAX, -1, -100, MIN}) due(x.between(pq, 0), BAD);
        for (int hour : new int[] {MIN, -1, 2400, MAX}) due(x.between(1, hour), BAD);
        due(x.between(1, 0), 0);
        due(x.between(201, 2399), 0);
        for (int i = 0; i < 60; i++) {
            x.peace(KING, 0, 10000 * i + 100, 0);
            due(x.between(1, i), i + 1);
        }
        due(x.between(201, 100), 60);
        due(x.between(1, 101), 0);
        due(x.between(1, 0), 1);
        says(15, "between two: whichever of them is named first");
        Hall y = Hall.with(32);
        y.peace(BOUGHT, 1L << 31 | 2, 10, 0);
        for (int pq : new int[] {131, 3101}) due(y.between(pq, 5), 1);
        for (int pq : new int[] {31, 3100, 130, 3001, 3130, 3031, 231, 3102}) due(y.between(pq, 5), 0);
    }

    private static void proof() {
        says(16, "the first PEACE without which none would HOLD between them; NOT: none HOLDS, or two do. BAD");
        Hall x = Hall.with(3);
        for (int pq : new int[] {0, 101, 3, 300, 99, MAX, -1, -100, MIN}) due(x.proof(pq, 0), BAD);
        for (int hour : new int[] {MIN, -1, 2400, MAX}) due(x.proof(1, hour), BAD);
        due(x.proof(1, 0), NOT);
        due(x.proof(1, 2399), NOT);
        for (int i = 0; i < 60; i++) x.peace(BOUGHT, 3, 10000 * (2 * i) + 2 * i + 1, 0);
        due(x.proof(1, 0), 0);
        due(x.proof(100, 1), 0);
        due(x.proof(1, 2), 1);
        due(x.proof(1, 119), 59);
        due(x.proof(1, 120), NOT);
        due(x.proof(2, 0), NOT);
        says(16, "NOT: two do");
        Hall y = Hall.with(3);
        y.peace(BOUGHT, 3, 10, 0);
        y.peace(BOUGHT, 3, 100020, 0);
        y.peace(BOUGHT, 5, 30, 0);
        due(y.proof(1, 9), 0);
        due(y.proof(1, 10), NOT);
        due(y.proof(1, 11), 1);
        due(y.proof(1, 20), 1);
        due(y.proof(1, 21), NOT);
        due(y.proof(2, 10), 2);
        y.peace(KING, 0, 15, 0);
        y.peace(KING, 0, 15, 0);
        due(y.proof(1, 9), NOT);
        due(y.proof(1, 10), NOT);
        due(y.proof(102, 9), NOT);
        says(16, "between them: whichever is named first");
        Hall z = Hall.with(32);
        z.peace(BOUGHT, 3, 10, 0);
        z.peace(BOUGHT, 1L << 31 | 2, 10, 0);
        for (int pq : new int[] {131, 3101}) due(z.proof(pq, 5), 1);
        for (int pq : new int[] {31, 3100, 130, 3001, 3130, 3031, 231, 3102}) due(z.proof(pq, 5), NOT);
    }

    public static void main(String[] args) {
        giverAndKind();
        covered();
        fromTo();
        ofPeace();
        cover();
        holdsArguments();
        holdsFromTo();
        holdsByKinds();
        holdsByLords();
        holdsBroken();
        between();
        proof();
        end();
    }
}
