/** For each promise of the document ordinary calls, the edges that it names, and wrong inputs. */
public final class Promises {
    private static int wrong = 0;
    private static int promise = 0;

    private static void due(String call, long got, long want) {
        if (got == want) return;
        wrong++;
        System.out.println("promise " + promise + ": " + call + " answered " + got + ", due is " + want);
    }

    /** 0 is the lord of all the others. */
    private static OneRoof underOneLord(int others) {
        OneRoof x = hall(1);
        for (int i = 0; i < others; i++) x.person(0, 5, 0);
        return x;
    }

    /** People without lords, of weight 5, with swords hung up. */
    private static OneRoof hall(int people) {
        OneRoof x = new OneRoof();
        for (int i = 0; i < people; i++) x.person(-1, 5, 0);
        return x;
    }

    private static int tell(OneRoof x, int use, String text) {
        for (int i = 0; i < text.length(); i += 4) {
            int n = Math.min(4, text.length() - i), v = 0;
            for (int j = 0; j < n; j++) v |= text.charAt(i + j) << 8 * j;
            x.feed(n, v);
        }
        return x.custom(use);
    }

    private static void newObject() {
        promise = 1;
        OneRoof x = new OneRoof();
        for (int what = 0; what < 8; what++) due("count(" + what + ")", x.count(what), 0);
        due("alive()", x.alive(), -1);
        due("blow(0)", x.blow(0), -1);
        due("trace(0)", x.trace(0), -1);
        due("undo()", x.undo(), -5);
        due("redo()", x.redo(), -5);
        for (int peg = 0; peg < 6; peg++) due("put on nothing", x.put(peg, 0, 1), -11);
    }

    private static void person() {
        promise = 2;
        OneRoof x = new OneRoof();
        due("first with a lord", x.person(0, 1, 0), -1);
        due("lord -2", x.person(-2, 1, 0), -1);
        due("weight 0", x.person(-1, 0, 0), -1);
        due("weight 100", x.person(-1, 100, 0), -1);
        due("sword -1", x.person(-1, 1, -1), -1);
        due("sword 2", x.person(-1, 1, 2), -1);
        due("nobody came", x.count(0), 0);
        for (int i = 0; i < 32; i++) due("person " + i, x.person(i - 1, i == 0 ? 1 : 99, i & 1), i);
        due("33rd", x.person(-1, 1, 0), -3);
        due("33rd, not as said", x.person(32, 1, 0), -1);
        due("32 stay", x.count(0), 32);
    }

    private static void people() {
        promise = 3;
        OneRoof x = new OneRoof();
        due("peg -1", x.people(-1, 0, 1), -1);
        due("peg 6", x.people(6, 0, 1), -1);
        due("n 0", x.people(0, 0, 0), -1);
        due("n 21", x.people(0, 0, 21), -1);
        due("no row", x.people(0, 0, 20), 0);
        x.row(0, 4, 3);
        due("booleans", x.people(0, 0, 1), -12);
        x.row(1, 0, 8);
        int[] row = {-1, 7, 1, 0, 99, 0, 1, 3};
        for (int i = 0; i < row.length; i++) x.put(1, i, row[i]);
        due("ends within a three", x.people(1, 0, 3), 2);
        due("lord of the second", x.of(1, 0), 0);
        due("weight of the second", x.of(1, 1), 99);
        due("sword of the first", x.of(0, 2), 1);
        due("from place -1", x.people(1, -1, 1), 0);
        due("one, though there are more", x.people(1, 0, 1), 1);
        due("no more than that", x.count(0), 3);
        due("from place -3", x.people(1, -3, 2), 0);
        due("from behind the end", x.people(1, 8, 1), 0);
        due("from far behind", x.people(1, Integer.MAX_VALUE, 20), 0);
        due("from far ahead", x.people(1, Integer.MIN_VALUE, 20), 0);
        due("one is not so", x.people(1, 1, 2), 0);
        x.peace(0, 0, 0, 0);
        x.keep(1, 0);
        due("a peace", x.people(1, 0, 1), -12);
        x.row(2, 0, 60);
        for (int i = 0; i < 20; i++) { x.put(2, 3 * i, -1); x.put(2, 3 * i + 1, 1); }
        due("twenty", x.people(2, 0, 20), 20);
        due("till full", x.people(2, 0, 20), 9);
        due("full", x.people(2, 0, 20), 0);
        due("32 people", x.count(0), 32);
    }

    private static void ofOne() {
        promise = 4;
        OneRoof x = new OneRoof();
        x.person(-1, 12, 1);
        x.person(0, 3, 0);
        due("no lord", x.of(0, 0), -1);
        due("lord", x.of(1, 0), 0);
        due("weight", x.of(0, 1), 12);
        due("sword", x.of(0, 2), 1);
        due("dead", x.of(0, 3), 0);
        due("what 4", x.of(0, 4), -1);
        due("what -1", x.of(0, -1), -1);
        due("nobody", x.of(2, 1), -1);
        due("person -1", x.of(-1, 1), -1);
        x.strike(1, 3, 0, 1);
        due("dead now", x.of(1, 3), 1);
        due("weight of one dead", x.of(1, 1), 3);
    }

    private static void sword() {
        promise = 5;
        OneRoof x = hall(2);
        due("put on", x.sword(1, 1), 0);
        due("the same", x.sword(1, 1), 1);
        due("one change", x.count(5), 1);
        due("of", x.of(1, 2), 1);
        due("hung up", x.sword(1, 0), 1);
        due("v 2", x.sword(1, 2), -1);
        due("v -1", x.sword(1, -1), -1);
        due("nobody", x.sword(2, 1), -1);
    }

    private static void kin() {
        promise = 6;
        OneRoof x = hall(32);
        due("first", x.kin(0, 1), 1);
        due("told", x.kin(0, 1), -1);
        due("told, turned", x.kin(1, 0), -1);
        due("one and the same", x.kin(3, 3), -1);
        due("nobody", x.kin(0, 32), -1);
        due("person -1", x.kin(-1, 2), -1);
        int told = 1;
        for (int i = 0; i < 32 && told < 60; i++)
            for (int j = i + 2; j < 32 && told < 60; j++) due("kin", x.kin(i, j), ++told);
        due("61st", x.kin(30, 31), -3);
        due("61st, told", x.kin(1, 0), -1);
        due("60 stay", x.count(1), 60);
    }

    private static void steps() {
        promise = 7;
        OneRoof x = hall(13);
        for (int i = 0; i < 11; i++) x.kin(i, i + 1);
        due("itself", x.steps(4, 4), 0);
        due("one", x.steps(5, 4), 1);
        due("nine", x.steps(0, 9), 9);
        due("ten", x.steps(0, 10), -2);
        due("none", x.steps(0, 12), -2);
        due("nobody", x.steps(0, 13), -1);
        due("person -1", x.steps(-1, 0), -1);
        x.kin(0, 6);
        due("over the new tie", x.steps(0, 10), 5);
        due("both ways", x.steps(7, 1), 3);
    }

    private static void feud() {
        promise = 8;
        OneRoof x = hall(3);
        due("one and the same", x.feud(101, 0, 0), -1);
        due("no such one", x.feud(3, 0, 0), -1);
        due("no such killed", x.feud(300, 0, 0), -1);
        due("below 0", x.feud(-1, 0, 0), -1);
        due("hour 2400", x.feud(1, 2400, 0), -1);
        due("hour -1", x.feud(1, -1, 0), -1);
        due("binding 4", x.feud(1, 0, 4000), -1);
        due("bp -1", x.feud(1, 0, -1), -1);
        due("first", x.feud(1, 2399, 3999), 0);
        for (int i = 1; i < 40; i++) due("feud " + i, x.feud(102, i, i), i);
        due("41st", x.feud(1, 0, 0), -3);
        due("41st, not as said", x.feud(0, 0, 0), -1);
        due("40 stay", x.count(2), 40);
    }

    private static void pay() {
        promise = 9;
        OneRoof x = hall(2);
        x.feud(1, 5, 0);
        due("not paid", x.pay(0, 10), 2400);
        due("at 9", x.near(0, 1, 9, 0), 0);
        due("at 10", x.near(0, 1, 10, 0), -2);
        due("again", x.pay(0, 2400), 10);
        due("at 2399", x.near(0, 1, 2399, 0), 0);
        due("from hour 0 on", x.pay(0, 0), 2400);
        due("at 5", x.near(0, 1, 5, 0), -2);
        due("2401", x.pay(0, 2401), -1);
        due("-1", x.pay(0, -1), -1);
        due("no such feud", x.pay(1, 5), -1);
        due("feud -1", x.pay(-1, 5), -1);
    }

    private static void near() {
        promise = 10;
        OneRoof x = hall(7);
        for (int i = 0; i < 6; i++) x.kin(i, i + 1);
        x.feud(105, 10, 1000);
        due("the two", x.near(1, 5, 10, 0), 0);
        due("turned", x.near(5, 1, 10, 0), 0);
        due("ahead of it", x.near(1, 5, 9, 0), -2);
        due("kin of both", x.near(0, 6, 10, 0), 2);
        due("both of one side", x.near(0, 1, 10, 0), -2);
        due("two steps off", x.near(3, 5, 10, 0), -2);
        x.feud(600, 10, 0);
        due("nearer by another", x.near(0, 6, 10, 0), 0);
        due("its number", x.near(0, 6, 10, 1), 1);
        x.feud(6, 10, 0);
        due("of like ones the first", x.near(6, 0, 10, 1), 1);
        x.feud(203, 0, 3000);
        due("the way round that is nearer", x.near(3, 2, 0, 0), 0);
        due("bound both ways", x.near(3, 3, 0, 0), -2);
        due("its farthest", x.near(0, 6, 9, 0), 5);
        due("hour 2400", x.near(0, 1, 2400, 0), -1);
        due("what 2", x.near(0, 1, 0, 2), -1);
        due("nobody", x.near(0, 7, 0, 0), -1);
        due("person -1", x.near(-1, 0, 0, 0), -1);
    }

    private static void peace() {
        promise = 11;
        OneRoof x = hall(2);
        due("kind 6", x.peace(6, 0, 0, 0), -1);
        due("kind 9", x.peace(9, 0, 0, 0), -1);
        due("no such giver", x.peace(20, 0, 0, 0), -1);
        due("gk -1", x.peace(-1, 0, 0, 0), -1);
        due("bit 32", x.peace(0, 1L << 32, 0, 0), -1);
        due("covers -1", x.peace(0, -1, 0, 0), -1);
        due("last ahead of first", x.peace(0, 0, 20001, 0), -1);
        due("last 2400", x.peace(0, 0, 2400, 0), -1);
        due("first 2400", x.peace(0, 0, 24002400, 0), -1);
        due("from -1", x.peace(0, 0, -1, 0), -1);
        due("behind 241", x.peace(0, 0, 0, 241), -1);
        due("behind -1", x.peace(0, 0, 0, -1), -1);
        due("those to come", x.peace(15, 0xffffffffL, 23992399, 240), 0);
        for (int i = 1; i < 60; i++) due("peace " + i, x.peace(i % 6, 0, 0, 0), i);
        due("61st", x.peace(0, 0, 0, 0), -3);
        due("61st, not as said", x.peace(6, 0, 0, 0), -1);
        due("60 stay", x.count(3), 60);
    }

    private static void ofPeace() {
        promise = 12;
        OneRoof x = hall(3);
        x.peace(22, 0x80000005L, 100020, 30);
        int[] want = {2, 2, 10, 20, 30, 3};
        for (int what = 0; what < 6; what++) due("what " + what, x.ofPeace(0, what), want[what]);
        due("what 6", x.ofPeace(0, 6), -1);
        due("what -1", x.ofPeace(0, -1), -1);
        due("no such peace", x.ofPeace(1, 0), -1);
        due("peace -1", x.ofPeace(-1, 0), -1);
    }

    private static void cover() {
        promise = 13;
        OneRoof x = hall(3);
        x.peace(4, 1, 10, 0);
        due("is not", x.cover(0, 1, 1), 0);
        due("is", x.cover(0, 1, 1), 1);
        due("covers two", x.ofPeace(0, 5), 2);
        due("holds", x.holds(0, 1, 5), 1);
        due("no more", x.cover(0, 0, 0), 1);
        due("holds no more", x.holds(0, 1, 5), 0);
        due("two changes", x.count(5), 2);
        due("v 2", x.cover(0, 1, 2), -1);
        due("no such peace", x.cover(1, 1, 1), -1);
        due("nobody", x.cover(0, 3, 1), -1);
        due("person -1", x.cover(0, -1, 1), -1);
    }

    private static void holds() {
        promise = 14;
        OneRoof x = new OneRoof();
        x.person(-1, 1, 0);
        x.person(0, 1, 0);
        x.person(1, 1, 0);
        x.person(-1, 1, 0);
        // of giver 0, covered 1 and 3; of each kind one, from 10 to 20, behind 5
        for (int kind = 0; kind < 6; kind++) x.peace(kind, 10, 100020, 5);
        int[][] want = {
            // 01 02 03 12 13 23
            {1, 1, 0, 1, 0, 0},
            {1, 0, 1, 0, 1, 0},
            {1, 0, 1, 0, 1, 0},
            {1, 0, 1, 1, 1, 1},
            {0, 0, 0, 0, 1, 0},
            {1, 1, 1, 1, 1, 1}};
        int[] pairs = {1, 2, 3, 102, 103, 203};
        for (int kind = 0; kind < 6; kind++)
            for (int i = 0; i < 6; i++) {
                int pq = pairs[i], turned = pq % 100 * 100 + pq / 100;
                due("kind " + kind + " of " + pq, x.holds(kind, pq, 10), want[kind][i]);
                due("kind " + kind + " of " + turned, x.holds(kind, turned, 20), want[kind][i]);
                due("ahead, kind " + kind + " of " + pq, x.holds(kind, pq, 9), 0);
                due("behind, kind " + kind + " of " + pq, x.holds(kind, pq, 25), kind == 2 ? want[kind][i] : 0);
                due("at last, kind " + kind + " of " + pq, x.holds(kind, pq, 26), 0);
            }
        due("one and the same", x.holds(0, 101, 10), -1);
        due("nobody", x.holds(0, 4, 10), -1);
        due("pq -1", x.holds(0, -1, 10), -1);
        due("hour 2400", x.holds(0, 1, 2400), -1);
        due("no such peace", x.holds(6, 1, 10), -1);
        x.strike(103, 15, 15, 1);
        due("broken", x.holds(4, 103, 15), 0);
    }

    private static void between() {
        promise = 15;
        OneRoof x = hall(3);
        due("none", x.between(1, 0), 0);
        x.peace(4, 3, 10, 0);
        x.peace(5, 0, 50015, 0);
        due("one", x.between(1, 4), 1);
        due("two", x.between(100, 5), 2);
        due("the other one", x.between(1, 11), 1);
        due("king alone", x.between(2, 7), 1);
        due("hour -1", x.between(1, -1), -1);
        due("hour 2400", x.between(1, 2400), -1);
        due("nobody", x.between(3, 0), -1);
        due("one and the same", x.between(101, 0), -1);
    }

    private static void proof() {
        promise = 16;
        OneRoof x = hall(3);
        x.peace(4, 6, 10, 0);
        x.peace(4, 3, 10, 0);
        x.peace(5, 0, 50015, 0);
        due("the one that holds", x.proof(1, 4), 1);
        due("two do", x.proof(1, 5), -2);
        due("the king's", x.proof(1, 11), 2);
        due("none", x.proof(1, 16), -2);
        due("nobody", x.proof(3, 0), -1);
        due("hour 2400", x.proof(1, 2400), -1);
        due("one and the same", x.proof(0, 5), -1);
    }

    private static void feed() {
        promise = 17;
        OneRoof x = hall(2);
        due("n 0", x.feed(0, 48), -1);
        due("n 5", x.feed(5, 48), -1);
        due("lowest first", x.feed(3, 'f' | '+' << 8 | '2' << 16 | '(' << 24), 3);
        due("on tape", x.count(4), 3);
        due("text", x.custom(0), 1);
        due("f+2", x.must(1, 3, 0), 2);
        for (int i = 1; i <= 29; i++) due("four", x.feed(4, -1), 4 * i);
        due("three", x.feed(3, -1), 119);
        due("two are too many", x.feed(2, -1), -3);
        due("one fits", x.feed(1, -1), 120);
        due("full", x.feed(1, 48), -3);
        due("full, not as said", x.feed(0, 48), -1);
        due("byte 255", x.custom(0), -100);
    }

    private static void custom() {
        promise = 18;
        OneRoof x = hall(2);
        String[] fine = {"f", "n?c", "1;2;3", "f?1;n?2;3", "((((((f))))))", "!-!-!-w", "!(!(!(f)))", "1+2-3*4/5%6", "1-(-2)", "1--2",
            "f<n&c>w|v=l", "0000", "9999", "(f<n)<c", "(f|n)&c", "k&o&d", "-1*-2", "f?((((((n))))))", "f;-!-!-!n", "((((((f))))))+((((((n))))))", "!f=n", "(1)", "!(-3)+(-(-(-5)))"};
        for (String t : fine) due(t, tell(x, 0, t), 1);
        Object[][] faulty = {{"", 0}, {"?", 0}, {";", 0}, {"f;", 2}, {"f?", 2}, {"f?n?c", 3}, {"f?n;?", 4}, {"(f?n)", 2}, {"(f", 2}, {"()", 1},
            {"f)", 1}, {"(f))", 3}, {"12345", 4}, {"f<n<c", 3}, {"f=n>c", 3}, {"f n", 1}, {"fn", 1}, {"1f", 1}, {"f1", 1}, {"(((((((f", 6},
            {"-!(-!((", 6}, {"((((((!f", 6}, {"((((((-f", 6}, {"(((((f)+(((f", 10}, {"(-(-(-(f", 6}, {"f+", 2}, {"f+*", 2}, {"+f", 0}, {"!", 1}, {"f!", 1}, {"F", 0}, {"x", 0}, {"f||n", 2}, {"f&", 2},
            {"0/?", 2}, {"f-?n", 2}, {"f+;n", 2}, {"(f;n)", 2}, {"f(n)", 1}};
        for (Object[] f : faulty) {
            due("fault of " + f[0], tell(x, 0, (String) f[0]), -100 - (Integer) f[1]);
            due("tape behind it", x.count(4), 0);
        }
        x.feed(1, '7');
        due("use 2", x.custom(2), -1);
        due("use -1", x.custom(-1), -1);
        due("it stays", x.count(4), 1);
        due("7", x.custom(0), 1);
        due("now 7", x.must(1, 3, 0), 7);
        tell(x, 0, "8)");
        due("a fault changes nothing", x.must(1, 3, 0), 7);
        StringBuilder longest = new StringBuilder("1");
        while (longest.length() < 119) longest.append("+1");
        due("119 bytes", tell(x, 0, longest.toString()), 1);
        due("60 ones", x.must(1, 3, 0), 60);
        due("ends too early", tell(x, 0, longest + "+"), -220);
    }

    private static void must() {
        promise = 19;
        OneRoof x = new OneRoof();
        x.person(-1, 1, 1);
        x.person(0, 1, 0);
        x.person(1, 1, 1);
        x.person(0, 1, 0);
        x.person(-1, 1, 0);
        x.kin(0, 1);
        x.kin(1, 2);
        x.feud(204, 10, 1000);
        x.peace(4, 0b10010, 200030, 0);
        x.peace(4, 0b10010, 250030, 0);
        due("ahead of the feud", x.must(104, 31, 9), 0);
        due("f&!c", x.must(104, 31, 10), 1);
        due("covered", x.must(104, 31, 20), 0);
        Object[][] texts = {{"f", 104, 1}, {"f", 4, 0}, {"n", 104, 1}, {"n", 4, 9}, {"c", 104, 2}, {"c", 401, 2}, {"c", 4, 0}, {"w", 4, 1}, {"w", 104, 0},
            {"v", 1, 0}, {"v", 104, 0}, {"v", 102, 1}, {"l", 200, 1}, {"l", 201, 1}, {"l", 2, 0}, {"l", 104, 0}, {"k", 2, 2}, {"k", 4, 9}, {"k", 100, 1},
            {"o", 104, 2}, {"o", 304, 2}, {"o", 204, 1}, {"o", 401, 1}, {"o", 1, 1}, {"d", 2, 0},
            {"7/2", 1, 3}, {"-7/2", 1, -3}, {"-7%4", 1, -3}, {"7/0", 1, 0}, {"7%0", 1, 0}, {"9999*9999*9999", 1, 9999 * 9999 * 9999}, {"2-3-4", 1, -5}, {"2+3*4", 1, 14},
            {"(2+3)*4", 1, 20}, {"!0+!5", 1, 1}, {"5|0", 1, 1}, {"5&7", 1, 1}, {"5&0", 1, 0}, {"1|0&0", 1, 1}, {"1<2", 1, 1}, {"2<2", 1, 0}, {"2=2", 1, 1},
            {"3>2", 1, 1}, {"1+1=2&3>1+1", 1, 1}, {"0?5", 1, 0}, {"0?5;7", 1, 7}, {"3?5;7", 1, 5}, {"0;7", 1, 0}, {"-1?-4", 1, -4}, {"0?1;0?2;6?3", 1, 3},
            {"0-9999*9999*21-9999*9999*21", 1, -9999 * 9999 * 21 * 2}, {"8-4/2%2", 1, 8}, {"--!!4", 1, 1}};
        for (Object[] t : texts) {
            due("custom " + t[0], tell(x, 0, (String) t[0]), 1);
            due("must(" + t[1] + ") by " + t[0], x.must((Integer) t[1], 31, 27), (Integer) t[2]);
        }
        tell(x, 0, "o");
        due("o of those there", x.must(104, 0b10010, 27), 1);
        due("one and the same", x.must(101, 31, 0), -2000000000);
        due("p is not there", x.must(104, 0b10001, 0), -2000000000);
        due("q is not there", x.must(104, 0b00011, 0), -2000000000);
        due("nobody", x.must(105, 31, 0), -2000000000);
        due("pq -1", x.must(-1, 31, 0), -2000000000);
        due("one to come is there", x.must(104, 63, 0), -2000000000);
        due("there -1", x.must(104, -1, 0), -2000000000);
        due("hour 2400", x.must(104, 31, 2400), -2000000000);
        tell(x, 0, "0");
        tell(x, 1, "0");
        x.strike(103, 31, 0, 1);
        tell(x, 0, "o");
        due("dead", x.must(103, 31, 0), -2000000000);
        due("o without the dead", x.must(104, 31, 0), 1);
    }

    private static void together() {
        promise = 20;
        OneRoof x = hall(4);
        x.feud(302, 20, 0);
        x.feud(1, 25, 0);
        x.peace(4, 12, 220030, 0);
        due("may", x.together(15, 190019, 0), -2);
        due("the hour", x.together(15, 100040, 0), 20);
        due("p", x.together(15, 100040, 1), 2);
        due("q", x.together(15, 100040, 2), 3);
        due("when peace holds", x.together(12, 220030, 0), -2);
        due("when it ends", x.together(12, 220031, 0), 31);
        due("the others", x.together(15, 220040, 0), 25);
        due("q of the others", x.together(15, 220040, 2), 1);
        due("one", x.together(1, 220040, 0), -2);
        due("nobody", x.together(0, 220040, 2), -2);
        due("48 hours", x.together(15, 530100, 0), 53);
        due("49 hours", x.together(15, 520100, 0), -1);
        due("48 hours from 0 on", x.together(3, 47, 0), 25);
        due("49 hours from 0 on", x.together(3, 48, 0), -1);
        due("turned", x.together(15, 400039, 0), -1);
        due("to 2400", x.together(15, 23902400, 0), -1);
        due("to 2399", x.together(15, 23992399, 0), 2399);
        due("from -1", x.together(15, -1, 0), -1);
        due("what 3", x.together(15, 100040, 3), -1);
        due("one to come", x.together(31, 100040, 0), -1);
        due("there -1", x.together(-1, 100040, 0), -1);
        OneRoof y = underOneLord(4);
        tell(y, 0, "o>3");
        due("o of all there", y.together(30, 0, 0), 0);
        due("o of three", y.together(15, 0, 0), -2);
    }

    private static void bars() {
        promise = 21;
        OneRoof x = hall(4);
        x.feud(1, 25, 0);
        due("ahead", x.bars(1, 100024), 0);
        due("at the last hour", x.bars(1, 100025), 1);
        due("turned", x.bars(100, 100025), 1);
        due("others", x.bars(2, 100025), 0);
        due("one and the same", x.bars(101, 100025), -1);
        due("nobody", x.bars(4, 100025), -1);
        due("49 hours", x.bars(1, 48), -1);
        due("pq -1", x.bars(-1, 0), -1);
        tell(x, 0, "w");
        x.sword(2, 1);
        due("one is enough", x.bars(203, 0), 1);
        due("the other way round, too", x.bars(302, 0), 1);
        due("neither", x.bars(1, 0), 0);
        OneRoof y = underOneLord(3);
        tell(y, 0, "o>2");
        due("o of the two alone", y.bars(102, 0), 0);
        tell(y, 0, "0");
        tell(y, 1, "0");
        y.strike(102, 6, 0, 1);
        tell(y, 0, "o=2");
        due("dead or not", y.bars(102, 0), 1);
        due("0 has no lord", y.bars(1, 0), 0);
    }

    private static void most() {
        promise = 22;
        OneRoof x = new OneRoof();
        int[] weights = {4, 3, 7, 3, 4, 1};
        for (int w : weights) x.person(-1, w, 0);
        x.feud(2, 0, 0);
        x.feud(203, 0, 0);
        due("the heaviest, most people, least bits", x.most(63, 0, 0), 0b111011);
        due("0 or 2 and 3: most people of like ones", x.most(0b1101, 0, 0), 0b1001);
        x.feud(105, 5, 0);
        due("of like ones the least", x.most(0b1010, 0, 0), 0b1010);
        x.feud(103, 0, 0);
        due("1 or 3", x.most(0b1010, 0, 0), 0b0010);
        due("2 can't be refused", x.most(0b001101, 0b100, 0), 0b100);
        due("0 and 2 bar one another", x.most(63, 0b101, 0), -2);
        due("refuse one not told", x.most(3, 4, 0), -1);
        due("refuse one told and one not told", x.most(3, 5, 0), -1);
        due("refuse one to come", x.most(63, 64, 0), -1);
        due("refuse a bit behind all people", x.most(63, 1L << 40, 0), -1);
        due("refuse -1", x.most(63, -1, 0), -1);
        due("refuse just those told", x.most(0b1001, 0b1001, 0), 0b1001);
        due("nobody told", x.most(0, 0, 0), -1);
        due("one to come", x.most(127, 0, 0), -1);
        due("told -1", x.most(-1, 0, 0), -1);
        due("49 hours", x.most(63, 0, 48), -1);
        OneRoof y = hall(13);
        due("twelve", y.most(4095, 0, 0), 4095);
        due("thirteen", y.most(8191, 0, 0), -1);
        tell(y, 1, "0");
        y.strike(1, 3, 0, 1);
        due("the dead are not told", y.most(8191, 0, 0), 8189);
        due("one dead among the told and among those not refused", y.most(8191, 2, 0), 8189);
        due("refuse one who is dead and not told", y.most(0b101, 2, 0), -1);
        due("refuse one told, and one who is dead and not told", y.most(0b101, 3, 0), -1);
        due("all told are dead", y.most(2, 0, 0), -1);
    }

    private static void rooms() {
        promise = 23;
        OneRoof x = new OneRoof();
        int[] weights = {4, 3, 7, 3, 9};
        for (int w : weights) x.person(-1, w, 0);
        x.feud(1, 0, 0);
        x.feud(102, 0, 0);
        x.feud(200, 0, 0);
        due("one of three stays out", x.rooms(7, 0, 0), 11);
        due("the heavier first", x.rooms(7, 0, 1), 4);
        due("with those free of feud", x.rooms(31, 0, 0), 23);
        due("all of them in the first", x.rooms(31, 0, 1), 0b11100);
        due("one", x.rooms(2, 0, 1), 2);
        OneRoof y = hall(3);
        y.feud(1, 0, 0);
        due("of like ones the least", y.rooms(3, 0, 1), 1);
        due("both in", y.rooms(3, 0, 0), 10);
        due("what 2", x.rooms(31, 0, 2), -1);
        due("nobody", x.rooms(0, 0, 0), -1);
        due("one to come", x.rooms(63, 0, 0), -1);
        due("49 hours", x.rooms(31, 48, 0), -1);
        OneRoof z = hall(13);
        due("thirteen", z.rooms(8191, 0, 0), -1);
        due("twelve", z.rooms(4095, 0, 0), 60);
    }

    private static void buy() {
        promise = 24;
        OneRoof x = hall(5);
        x.feud(1, 0, 50);
        x.feud(1, 0, 20);
        x.feud(203, 10, 30);
        due("two of one pair", x.buy(3, 0, 0), 70);
        due("their numbers", x.buy(3, 0, 1), 3);
        due("not yet", x.buy(12, 9, 0), 0);
        due("no feuds", x.buy(12, 9, 1), 0);
        due("all", x.buy(15, 10, 0), 100);
        due("numbers of all", x.buy(15, 10, 1), 7);
        x.pay(0, 0);
        due("one is paid", x.buy(3, 0, 1), 2);
        x.pay(0, 5);
        due("paid too late", x.buy(3, 0, 1), 3);
        due("paid by the first hour", x.buy(3, 50005, 1), 2);
        tell(x, 0, "f&n<1|w");
        due("by another custom", x.buy(3, 50005, 1), 2);
        x.sword(0, 1);
        due("none does", x.buy(3, 50005, 1), -2);
        due("one alone", x.buy(1, 50005, 0), 0);
        tell(x, 0, "n=9?2;n=0?0;1");
        due("bars without a feud", x.buy(12, 0, 0), -2);
        due("a feud is better left", x.buy(12, 100010, 1), 0);
        due("what 2", x.buy(3, 0, 2), -1);
        due("nobody", x.buy(0, 0, 0), -1);
        due("49 hours", x.buy(3, 48, 0), -1);
        due("one to come", x.buy(32, 0, 0), -1);
        OneRoof y = hall(4);
        for (int i = 0; i < 11; i++) y.feud(i == 10 ? 203 : 1, 0, 1);
        due("ten open ones", y.buy(3, 0, 0), 10);
        due("the eleventh can't be paid", y.buy(12, 0, 0), -2);
        y.pay(0, 0);
        due("now it can", y.buy(12, 0, 1), 1 << 10);
        OneRoof z = hall(2);
        z.feud(1, 0, 0);
        z.feud(1, 5, 0);
        due("of like ones the fewest", z.buy(3, 0, 1), 1);
        OneRoof u = hall(4);
        u.kin(0, 2);
        u.feud(1, 0, 1005);
        u.feud(201, 0, 5);
        tell(u, 0, "n=1");
        due("nearer ones may hide it", u.buy(6, 0, 1), 0);
    }

    private static void road() {
        promise = 25;
        OneRoof x = hall(2);
        due("0 at first", x.road(1, 3), 0);
        due("then", x.road(1, 3), 3);
        due("v 4", x.road(1, 4), -1);
        due("v -1", x.road(1, -1), -1);
        due("nobody", x.road(2, 0), -1);
        due("it stays", x.road(1, 0), 3);
        due("no change", x.count(5), 0);
    }

    private static void leave() {
        promise = 26;
        OneRoof x = hall(8);
        x.feud(1, 0, 0);
        due("too close", x.leave(3, 0, 202), -2);
        due("far enough", x.leave(3, 0, 201), 12);
        due("one between", x.leave(7, 0, 202), 132);
        due("two hours behind", x.leave(7, 0, 204), -2);
        x.road(1, 2);
        due("on two roads", x.leave(7, 0, 204), 123);
        x.road(0, 2);
        x.peace(4, 3, 20002, 0);
        due("peace when the one behind leaves", x.leave(3, 0, 202), 12);
        due("none then", x.leave(3, 2, 202), -2);
        x.pay(0, 12);
        due("paid when the one behind leaves", x.leave(3, 10, 299), 12);
        due("not yet", x.leave(3, 9, 299), -2);
        x.pay(0, 2400);
        due("behind the last hour", x.leave(3, 2399, 2424), -2);
        due("six", x.leave(63, 0, 101), 132456);
        due("one", x.leave(64, 0, 101), 1);
        due("places among those told", x.leave(96, 0, 101), 12);
        due("seven", x.leave(127, 0, 100), -1);
        due("nobody", x.leave(0, 0, 100), -1);
        due("start 0", x.leave(3, 0, 99), -1);
        due("start 25", x.leave(3, 0, 2500), -1);
        due("start 24, fast 99", x.leave(12, 0, 2499), 12);
        due("sf -100", x.leave(3, 0, -100), -1);
        due("hour 2400", x.leave(3, 2400, 100), -1);
        due("one to come", x.leave(256, 0, 100), -1);
        tell(x, 1, "0");
        tell(x, 0, "0");
        x.strike(607, 192, 0, 1);
        due("the dead are not told", x.leave(192 + 31, 0, 100), 123456);
    }

    private static void strike() {
        promise = 27;
        OneRoof x = hall(6);
        x.kin(1, 2);
        x.kin(3, 4);
        for (int i = 1; i < 5; i++) x.sword(i, 1);
        int changes = x.count(5);
        x.peace(1, 0b111111, 10, 0);
        x.peace(14, 0b000001, 10, 0);
        x.peace(34, 0b001001, 10, 0);
        due("a blow and its help", x.strike(1, 63, 0, 0), 2);
        due("the blow", x.blow(0), 1);
        due("kin strikes", x.blow(1), 100 * 2);
        due("nothing is broken in thought", x.ofPeace(0, 0), 1);
        due("nobody is dead in thought", x.count(6), 0);
        due("nor changed", x.count(5), changes);
    }

    private static void strikeInDeed() {
        OneRoof x = hall(6);
        x.kin(1, 2);
        x.sword(2, 1);
        x.peace(1, 0b000110, 10, 0);
        x.peace(34, 0b001010, 10, 0);
        x.peace(15, 0, 10, 0);
        x.peace(5, 0, 10, 0);
        x.peace(4, 0b000011, 11, 0);
        due("in deed", x.strike(1, 63, 10, 1), 2);
        due("help", x.blow(1), 200);
        due("the giver broke it", x.ofPeace(0, 0), 6);
        due("not between them", x.ofPeace(1, 0), 4);
        due("another's peace", x.ofPeace(2, 0), 5);
        due("the giver's own", x.ofPeace(3, 0), 6);
        due("one covered broke it", x.ofPeace(4, 0), 6);
        due("changes", x.count(5), 4);
        due("dead", x.count(6), 2);
        due("dead ones strike no more", x.strike(2, 63, 10, 0), -1);
        due("nor are they struck", x.strike(201, 63, 10, 0), -1);
        due("undone, the latest first", x.undo(), 3);
        due("the last one broken", x.ofPeace(4, 0), 4);
        due("the dead stay dead", x.count(6), 2);
        due("one and the same", x.strike(202, 63, 0, 0), -1);
        due("not there", x.strike(203, 0b110111, 0, 0), -1);
        due("striker not there", x.strike(203, 0b111011, 0, 0), -1);
        due("nobody", x.strike(206, 63, 0, 0), -1);
        due("deed 2", x.strike(203, 63, 0, 2), -1);
        due("deed -1", x.strike(203, 63, 0, -1), -1);
        due("hour 2400", x.strike(203, 63, 2400, 0), -1);
        due("one to come", x.strike(203, 127, 0, 0), -1);
        due("the latest row stays", x.blow(1), 200);
    }

    private static void strikeByCustoms() {
        OneRoof w = underOneLord(5);
        tell(w, 1, "0");
        tell(w, 0, "o>2");
        due("till two are left", w.strike(102, 62, 0, 0), 3);
        due("by must, the first pair", w.blow(1), 103);
        due("left", w.alive(), 0b100010);
        OneRoof x = hall(5);
        tell(x, 1, "0");
        tell(x, 0, "1");
        due("till one is left", x.strike(403, 31, 0, 0), 4);
        due("who is left", x.alive(), 1);
        tell(x, 0, "0");
        tell(x, 1, "k=9&d=0");
        due("d of nobody but the struck one", x.strike(1, 31, 0, 0), 1);
        x.kin(2, 1);
        x.kin(3, 4);
        tell(x, 1, "d=1");
        due("kin of the struck one", x.strike(1, 31, 0, 0), 2);
        due("helps", x.blow(1), 200);
        // one hearth over all; its host breaks it for the others, too
        OneRoof y = hall(4);
        y.feud(1, 0, 0);
        y.feud(203, 0, 0);
        y.peace(1, 0b1110, 10, 0);
        due("peace keeps the others", y.must(203, 15, 5), 0);
        due("broken peace does not", y.strike(1, 15, 5, 0), 2);
        due("who struck then", y.blow(1), 203);
        y.peace(15, 0, 10, 0);
        due("the king's is not the striker's to break", y.strike(1, 15, 5, 0), 1);
        due("but its giver's", y.strike(102, 15, 5, 0), 2);
        due("for whoever is at feud then", y.blow(1), 1);
        OneRoof z = hall(32);
        tell(z, 0, "1");
        due("31 blows", z.strike(1, 0xffffffffL, 0, 0), 31);
        due("one is left of 32", z.alive(), 1);
    }

    private static void strikeAgain() {
        // 1 strikes 2 and, by must, 4; kin of 2 strikes 1 only then, for the blow that is not its latest
        OneRoof x = underOneLord(4);
        x.kin(2, 3);
        x.feud(104, 0, 0);
        tell(x, 0, "f");
        tell(x, 1, "d=1&o<3");
        due("any blow of one who struck counts", x.strike(102, 30, 0, 0), 3);
        due("by must", x.blow(1), 104);
        due("for the first blow", x.blow(2), 301);
    }

    private static void blow() {
        promise = 28;
        OneRoof x = hall(3);
        due("none yet", x.blow(0), -1);
        x.strike(102, 7, 0, 0);
        due("the first", x.blow(0), 102);
        due("no more", x.blow(1), -1);
        due("i -1", x.blow(-1), -1);
        x.strike(1, 7, 0, 0);
        due("the latest", x.blow(0), 1);
        x.strike(0, 7, 0, 0);
        due("what is BAD is no row", x.blow(0), 1);
    }

    private static void alive() {
        promise = 29;
        OneRoof x = hall(3);
        due("none was told", x.alive(), -1);
        x.strike(1, 3, 0, 0);
        due("of those there", x.alive(), 1);
        x.strike(1, 7, 0, 0);
        due("of all", x.alive(), 5);
    }

    private static void worst() {
        promise = 30;
        OneRoof x = hall(5);
        x.kin(2, 3);
        x.sword(3, 1);
        due("the first of like ones", x.worst(0b10011, 0), 1);
        due("help makes it worse", x.worst(31, 0), 2);
        due("no row is told", x.alive(), -1);
        due("nobody", x.worst(0, 0), -2);
        due("one", x.worst(4, 0), -2);
        due("one to come", x.worst(32, 0), -1);
        due("there -1", x.worst(-1, 0), -1);
        due("hour 2400", x.worst(31, 2400), -1);
        due("hour -1", x.worst(31, -1), -1);
        x.strike(401, 0b10010, 0, 1);
        due("row", x.blow(0), 401);
        due("two left of three", x.worst(0b10010, 0), -2);
        x.worst(31, 0);
        due("the latest row stays", x.blow(0), 401);
    }

    private static void wed() {
        promise = 31;
        OneRoof x = hall(6);
        x.kin(0, 1);
        x.feud(3, 10, 1000);
        due("as it is", x.wed(304, 10, 1), 2);
        due("new ones", x.wed(304, 10, 0), 2);
        due("ahead of it", x.wed(304, 9, 0), 0);
        due("one step is not enough", x.wed(104, 10, 0), 0);
        due("both sides", x.wed(3, 10, 0), 1);
        due("in thought", x.steps(3, 4), -2);
        due("KIN", x.wed(100, 10, 0), -1);
        due("one and the same", x.wed(303, 10, 0), -1);
        due("nobody", x.wed(6, 10, 0), -1);
        due("what 2", x.wed(304, 10, 2), -1);
        due("hour 2400", x.wed(304, 2400, 0), -1);
    }

    private static void undoRedo() {
        promise = 32;
        OneRoof x = hall(3);
        x.feud(1, 0, 0);
        x.peace(4, 1, 10, 0);
        due("none", x.undo(), -5);
        x.sword(0, 1);
        x.pay(0, 7);
        x.cover(0, 1, 1);
        x.sword(0, 1);
        due("undo cover", x.undo(), 2);
        due("covers one", x.ofPeace(0, 5), 1);
        due("undo pay", x.undo(), 1);
        due("paid", x.near(0, 1, 7, 0), 0);
        promise = 33;
        due("redo pay", x.redo(), 1);
        due("paid again", x.near(0, 1, 7, 0), -2);
        x.sword(0, 1);
        due("the same is no change", x.redo(), 0);
        due("covers two", x.ofPeace(0, 5), 2);
        due("none", x.redo(), -5);
        x.undo();
        x.sword(1, 1);
        due("another came behind", x.redo(), -5);
        due("three", x.count(5), 3);
        promise = 32;
        due("undo sword", x.undo(), 2);
        due("undo pay", x.undo(), 1);
        due("undo sword", x.undo(), 0);
        due("hung up", x.of(0, 2), 0);
        due("none", x.undo(), -5);
        for (int i = 0; i < 45; i++) x.pay(0, i);
        due("40 are kept", x.count(5), 40);
        for (int i = 39; i >= 0; i--) due("undo", x.undo(), i);
        due("no more", x.undo(), -5);
        due("as five ago", x.pay(0, 4), 4);
        promise = 33;
        for (int i = 39; i >= 0; i--) due("redo", x.redo(), i);
        due("no more", x.redo(), -5);
        due("as it was", x.pay(0, 44), 44);
        manyChanges();
    }

    /** 45 changes of three sorts by turns: the last 40 are undone and done again. */
    private static void manyChanges() {
        promise = 32;
        OneRoof x = hall(3);
        x.feud(1, 0, 0);
        x.peace(4, 0, 10, 0);
        for (int i = 0; i < 45; i++) due("change " + i, turn(x, i, after(i)), before(i));
        for (int i = 44; i >= 5; i--) {
            due("undo " + i, x.undo(), i - 5);
            due("as it was ahead of " + i, turn(x, i, before(i)), before(i));
        }
        promise = 33;
        for (int i = 5; i < 45; i++) {
            due("redo " + i, x.redo(), 44 - i);
            due("as it was behind " + i, turn(x, i, after(i)), after(i));
        }
    }

    private static int turn(OneRoof x, int i, int v) {
        return i % 3 == 0 ? x.pay(0, v) : i % 3 == 1 ? x.sword(1, v) : x.cover(0, 2, v);
    }

    private static int after(int i) {
        return i % 3 == 0 ? i + 1 : (i / 3 + 1) % 2;
    }

    private static int before(int i) {
        return i % 3 == 0 ? i < 3 ? 2400 : i - 2 : i / 3 % 2;
    }

    private static void act() {
        promise = 34;
        OneRoof x = hall(2);
        for (int kind = 0; kind < 6; kind++) x.peace(kind, 3, 10, 0);
        // of number n: holds, covers, ends, tells of 7
        long[][] want = {
            {7, 14, 7, 14 - 1},
            {11, 22, 6, 22 - 0},
            {7 + 1 + 2 + 3, 26, 5 * 3, 26 - 3 * 3},
            {10, -20, 4, -20 - 2},
            {11, 22, 3, 22 - 5 ^ 5},
            {12 - 7, 10, 2, 10 - 4 ^ 5}};
        for (int n = 0; n < 6; n++)
            for (int act = 0; act < 4; act++) due("act(" + n + ", " + act + ", 7)", x.act(n, act, 7), want[n][act]);
        due("wraps", x.act(1, 1, Integer.MAX_VALUE), (Integer.MAX_VALUE + 1 + 3) * 2);
        x.strike(1, 3, 5, 1);
        due("broken", x.ofPeace(2, 0), 6);
        due("broken holds", x.act(2, 0, 7), 9);
        due("broken covers", x.act(2, 1, 7), 36);
        due("broken ends", x.act(2, 2, 7), 5 + 3);
        due("broken tells", x.act(2, 3, 7), 36 - (3 + 3));
        due("bodies of that", x.count(7), 7);
        due("no such peace", x.act(6, 0, 7), 0);
        due("no trace then", x.trace(0), -1);
        due("no bodies", x.count(7), 0);
        x.act(0, 0, 1);
        due("no such act", x.act(0, 4, 7), 0);
        due("no trace then", x.trace(0), -1);
        x.act(0, 0, 1);
        due("act -1", x.act(0, -1, 7), 0);
        due("peace -1", x.act(-1, 0, 7), 0);
        due("no bodies", x.count(7), 0);
    }

    private static void trace() {
        promise = 35;
        OneRoof x = hall(2);
        for (int kind = 0; kind < 6; kind++) x.peace(kind, 3, 10, 0);
        int[][] want = {{2, 10, 1, 11}, {2, 10, 20, 1, 11}, {2, 10, 31, 20, 1, 30, 11}, {2, 40, 10, 1, 11}, {50, 2, 10, 1, 11}, {50, 2, 10, 60, 1, 11, 11}};
        for (int n = 0; n < 6; n++) {
            x.act(n, 3, 1);
            due("bodies", x.count(7), want[n].length);
            for (int i = 0; i < want[n].length; i++) due("trace(" + i + ") of " + n, x.trace(i), want[n][i]);
            due("no more", x.trace(want[n].length), -1);
        }
        due("i -1", x.trace(-1), -1);
        x.strike(1, 3, 5, 1);
        x.act(2, 3, 1);
        int[] broken = {2, 71, 10, 1, 70, 11, 1};
        for (int i = 0; i < broken.length; i++) due("trace(" + i + ") of a broken one", x.trace(i), broken[i]);
    }

    private static void keep() {
        promise = 36;
        OneRoof x = hall(2);
        x.peace(3, 3, 10, 0);
        due("a peace", x.keep(5, 0), 1);
        due("it is there", x.taken(5, 3), 3);
        due("nothing", x.keep(5, -1), 1);
        due("gone", x.taken(5, 3), -11);
        due("no such peace", x.keep(5, 1), -1);
        due("peace -2", x.keep(5, -2), -1);
        due("peg 6", x.keep(6, 0), -1);
        due("peg -1", x.keep(-1, -1), -1);
        x.row(5, 0, 3);
        due("instead of a row", x.keep(5, 0), 1);
        due("no row", x.put(5, 0, 1), -12);
    }

    private static void row() {
        promise = 37;
        OneRoof x = hall(1);
        due("sort 5", x.row(0, 5, 1), -1);
        due("sort -1", x.row(0, -1, 1), -1);
        due("n 61", x.row(0, 0, 61), -1);
        due("n -1", x.row(0, 0, -1), -14);
        due("sort 5, n -1", x.row(0, 5, -1), -1);
        due("peg 6", x.row(6, 0, 1), -1);
        due("peg -1", x.row(-1, 0, -1), -1);
        due("nothing is there", x.put(0, 0, 1), -11);
        due("60", x.row(0, 3, 60), 1);
        due("at 59", x.put(0, 59, 5), 1);
        due("none", x.row(0, 3, 0), 1);
        due("no place", x.put(0, 0, 5), -13);
        due("60 again", x.row(0, 3, 60), 1);
        for (int i = 0; i < 60; i++) x.put(0, i, i + 1);
        due("the next peg", x.row(1, 3, 60), 1);
        for (int i = 0; i < 60; i++) x.put(1, i, -1);
        due("60 anew", x.row(0, 3, 60), 1);
        for (int i = 0; i < 60; i++) due("0 at first", x.element(0, i), 0);
        for (int i = 0; i < 60; i++) due("the next peg's", x.element(1, i), -1);
    }

    private static void put() {
        promise = 38;
        OneRoof x = hall(1);
        x.peace(0, 0, 0, 0);
        long v = 0x1234567890abcdefL;
        long[] want = {(byte) v, (short) v, (int) v, v, 1};
        for (int sort = 0; sort < 5; sort++) {
            x.row(sort, sort, 2);
            due("put", x.put(sort, 1, v), 1);
            due("lowest bits of sort " + sort, x.element(sort, 1), want[sort]);
            due("put -1", x.put(sort, 1, -1), 1);
            due("-1 of sort " + sort, x.element(sort, 1), sort == 4 ? 1 : -1);
            due("put 256", x.put(sort, 1, 256), 1);
            due("256 of sort " + sort, x.element(sort, 1), sort == 0 ? 0 : sort == 4 ? 1 : 256);
            due("put 0", x.put(sort, 1, 0), 1);
            due("0 of sort " + sort, x.element(sort, 1), 0);
            due("place 2", x.put(sort, 2, 1), -13);
            due("place -1", x.put(sort, -1, 1), -13);
        }
        due("peg 6", x.put(6, 0, 1), -1);
        due("peg -1", x.put(-1, 0, 1), -1);
        due("nothing", x.put(5, -1, 1), -11);
        x.keep(5, 0);
        due("a peace", x.put(5, -1, 1), -12);
    }

    private static void element() {
        promise = 39;
        OneRoof x = hall(1);
        x.peace(0, 0, 0, 0);
        x.row(0, 1, 3);
        x.put(0, 2, 77);
        due("element", x.element(0, 2), 77);
        due("place 3", x.element(0, 3), Long.MIN_VALUE);
        due("place -1", x.element(0, -1), Long.MIN_VALUE);
        due("nothing", x.element(1, 0), Long.MIN_VALUE);
        x.keep(1, 0);
        due("a peace", x.element(1, 0), Long.MIN_VALUE);
        due("peg 6", x.element(6, 0), Long.MIN_VALUE);
        due("peg -1", x.element(-1, 0), Long.MIN_VALUE);
    }

    private static void shift() {
        promise = 40;
        OneRoof x = hall(1);
        x.peace(0, 0, 0, 0);
        x.row(0, 2, 5);
        for (int i = 0; i < 5; i++) x.put(0, i, i + 1);
        due("onward", x.shift(0, 0, 0, 1, 4), 4);
        long[] want = {1, 1, 2, 3, 4};
        for (int i = 0; i < 5; i++) due("element " + i, x.element(0, i), want[i]);
        due("back", x.shift(0, 2, 0, 0, 3), 3);
        long[] then = {2, 3, 4, 3, 4};
        for (int i = 0; i < 5; i++) due("element " + i, x.element(0, i), then[i]);
        x.row(1, 2, 2);
        due("to another", x.shift(0, 1, 1, 0, 2), 2);
        due("there", x.element(1, 1), 4);
        due("none at the end", x.shift(0, 5, 1, 2, 0), 0);
        due("none behind the end", x.shift(0, 6, 1, 2, 0), -13);
        due("none behind the other end", x.shift(0, 5, 1, 3, 0), -13);
        due("too many here", x.shift(1, 1, 0, 0, 2), -13);
        due("too many there", x.shift(0, 0, 1, 1, 2), -13);
        due("place -1", x.shift(0, -1, 1, 0, 1), -13);
        due("other place -1", x.shift(0, 0, 1, -1, 1), -13);
        due("n -1", x.shift(0, 1, 1, 1, -1), -13);
        due("far behind", x.shift(0, Integer.MAX_VALUE, 1, 0, Integer.MAX_VALUE), -13);
        due("nothing", x.shift(2, 0, 0, 0, 1), -11);
        due("to nothing", x.shift(0, 0, 2, 0, 1), -11);
        x.keep(3, 0);
        due("a peace, to nothing", x.shift(3, 0, 2, 0, 1), -11);
        due("a peace", x.shift(3, 0, 0, 0, 1), -12);
        due("to a peace", x.shift(0, 0, 3, 0, 1), -12);
        due("a peace to itself", x.shift(3, 0, 3, 0, 0), -12);
        x.row(4, 3, 5);
        due("of unlike sorts", x.shift(0, -1, 4, 0, 1), -12);
        due("peg 6", x.shift(6, 0, 0, 0, 1), -1);
        due("other -1", x.shift(0, 0, -1, 0, 1), -1);
    }

    private static void taken() {
        promise = 41;
        OneRoof x = hall(2);
        for (int kind = 0; kind < 6; kind++) x.peace(kind, 3, 10, 0);
        boolean[][] under = {{true, false, false, false, false, false, false}, {true, true, false, false, false, false, false},
            {true, true, true, false, false, false, false}, {true, false, false, true, false, false, false},
            {true, false, false, false, true, false, false}, {true, false, false, false, true, true, false}};
        for (int kind = 0; kind < 6; kind++) {
            x.keep(kind, kind);
            for (int k = 0; k < 7; k++) due("kind " + kind + " for " + k, x.taken(kind, k), under[kind][k] ? kind : -12);
            due("k 7", x.taken(kind, 7), -1);
            due("k -1", x.taken(kind, -1), -1);
        }
        x.strike(1, 3, 0, 1);
        due("as it is now", x.taken(2, 6), 6);
        due("no more under hearth", x.taken(2, 1), -12);
        due("under peace", x.taken(2, 0), 6);
        x.keep(0, -1);
        due("nothing", x.taken(0, 0), -11);
        x.row(0, 0, 1);
        due("a row", x.taken(0, 0), -12);
        due("peg 6", x.taken(6, 0), -1);
        due("peg -1", x.taken(-1, 0), -1);
    }

    private static void count() {
        promise = 42;
        OneRoof x = hall(3);
        x.kin(0, 1);
        x.kin(1, 2);
        x.feud(1, 0, 0);
        x.feud(102, 0, 0);
        x.feud(2, 0, 0);
        x.feud(2, 0, 0);
        for (int i = 0; i < 5; i++) x.peace(4, 7, 20002, 0);
        x.feed(4, 0);
        x.feed(2, 0);
        x.sword(0, 1);
        x.sword(1, 1);
        x.undo();
        tell(x, 1, "0");
        x.feed(3, 0);
        x.feed(3, 0);
        x.strike(1, 3, 0, 1);
        x.act(0, 3, 0);
        long[] want = {3, 2, 4, 5, 6, 1, 1, 5};
        for (int what = 0; what < 8; what++) due("count(" + what + ")", x.count(what), want[what]);
        due("count(8)", x.count(8), -1);
        due("count(-1)", x.count(-1), -1);
    }

    public static void main(String[] args) {
        newObject();
        person();
        people();
        ofOne();
        sword();
        kin();
        steps();
        feud();
        pay();
        near();
        peace();
        ofPeace();
        cover();
        holds();
        between();
        proof();
        feed();
        custom();
        must();
        together();
        bars();
        most();
        rooms();
        buy();
        road();
        leave();
        strike();
        strikeInDeed();
        strikeByCustoms();
        strikeAgain();
        blow();
        alive();
        worst();
        wed();
        undoRedo();
        act();
        trace();
        keep();
        row();
        put();
        element();
        shift();
        taken();
        count();
        System.out.println(wrong == 0 ? "all answers are as due" : wrong + " answers are not as due");
        if (wrong != 0) System.exit(1);
    }
}
