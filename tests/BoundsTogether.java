/** The boundary cases of section 4 and of promises 20 to 26: who may be there together, the lists, and leaving. */
public final class BoundsTogether extends Bounds {
    private static final long ALL = 0xffffffffL;
    /** Spans of hours that are not as said: turned, out of the hours, or of more than 48 of them. */
    private static final int[] NO_SPANS = {MIN, -1, -10000, 10000, 20001, 23992398, 48, 9999, 2400, 10049, 23512399, 23992400, 24002400, 24002401, 24000000, MAX};
    private static final int[] SPANS = {0, 1, 47, 10048, 480095, 23522399, 23982399, 23992399};
    /** Sets with bits of nobody, in a hall of four. */
    private static final long[] NO_SETS = {16, 31, 1L << 31, 1L << 32, 1L << 32 | 3, 1L << 62, 1L << 63 | 3, -1, Long.MIN_VALUE, Long.MAX_VALUE};
    private static final int[] NO_PAIRS = {0, 101, 303, 4, 400, 404, 99, 10001, MAX, -1, -100, -101, MIN};

    /** Customs by which nobody strikes of himself, and then one blow in deed. */
    private static void kill(Hall x, int struck, int striker) {
        x.tell(0, "0");
        x.tell(1, "0");
        x.strike(100 * striker + struck, 1L << striker | 1L << struck, 0, 1);
    }

    private static void togetherArguments() {
        says(20, "fromTo: 10000 times the first and the last, at most 48 hours. BAD");
        Hall x = Hall.with(4);
        for (int fromTo : NO_SPANS) due(x.together(15, fromTo, 0), BAD);
        for (int fromTo : SPANS) due(x.together(15, fromTo, 0), NOT);
        says(20, "the HOUR (what 0), p (1), q (2). BAD");
        x.feud(203, 0, 0);
        for (int what : new int[] {MIN, -1, 3, MAX}) due(x.together(15, 0, what), BAD);
        due(x.together(15, 0, 0), 0);
        due(x.together(15, 0, 1), 2);
        due(x.together(15, 0, 2), 3);
        says(20, "THERE: a set of PEOPLE (bits). BAD");
        for (long there : NO_SETS) due(x.together(there, 0, 0), BAD);
        says(20, "of several the one named first: BAD, NOT");
        due(x.together(3, 48, 0), BAD);
        due(x.together(3, 0, 3), BAD);
        due(x.together(16, 0, 0), BAD);
        due(x.together(3, 0, 0), NOT);
    }

    private static void togetherHours() {
        says(20, "A SET may be TOGETHER from an HOUR to an HOUR, if at no HOUR of these any p THERE must strike any q THERE");
        Hall x = Hall.with(4);
        x.feud(1, 100, 0);
        x.pay(0, 110);
        due(x.together(15, 520099, 0), NOT);
        due(x.together(15, 530100, 0), 100);
        due(x.together(15, 1090109, 0), 109);
        due(x.together(15, 1090156, 0), 109);
        due(x.together(15, 1100157, 0), NOT);
        due(x.together(15, 1000100, 0), 100);
        says(20, "when a PEACE ends behind its last HOUR, SALT BEHIND hours later, till the last HOUR of the 48");
        Hall y = Hall.with(4);
        y.feud(1, 0, 0);
        y.peace(2, 3, 100020, 27);
        due(y.together(3, 90009, 0), 9);
        due(y.together(3, 100047, 0), NOT);
        due(y.together(3, 100048, 0), 48);
        due(y.together(3, 10048, 0), 1);
        due(y.together(3, 480095, 0), 48);
        y.cover(0, 0, 0);
        due(y.together(3, 100047, 0), NOT);
        y.cover(0, 1, 0);
        due(y.together(3, 100047, 0), 10);
        says(20, "at no HOUR of these: when a FEUD is PAID, and when a PEACE begins, something else may bid to strike");
        Hall u = Hall.with(2);
        u.feud(1, 0, 0);
        u.pay(0, 30);
        u.peace(4, 3, 300030, 0);
        u.tell(0, "!f");
        due(u.together(3, 290030, 0), 30);
        due(u.together(3, 47, 0), 30);
        due(u.together(3, 29, 0), NOT);
        due(u.bars(1, 29), 0);
        due(u.bars(1, 30), 1);
        u.pay(0, 2400);
        u.tell(0, "c");
        due(u.together(3, 47, 0), 30);
        due(u.together(3, 29, 0), NOT);
        due(u.together(3, 310047, 0), NOT);
        u.tell(0, "!c");
        due(u.together(3, 300047, 0), 31);
        due(u.together(3, 300030, 0), NOT);
        says(20, "FIRST: the first HOUR, then p, then q");
        Hall z = Hall.with(4);
        z.feud(203, 5, 0);
        z.feud(103, 5, 0);
        z.feud(2, 6, 0);
        due(z.together(15, 10, 0), 5);
        due(z.together(15, 10, 1), 1);
        due(z.together(15, 10, 2), 3);
        due(z.together(13, 10, 0), 5);
        due(z.together(13, 10, 1), 2);
        due(z.together(13, 10, 2), 3);
        due(z.together(7, 10, 0), 6);
        due(z.together(7, 10, 1), 0);
        due(z.together(7, 10, 2), 2);
        due(z.together(15, 60010, 1), 0);
    }

    private static void togetherWithAllThereMayBe() {
        says(20, "from an HOUR to an HOUR, with as many FEUDS and PEACES as there may be: the last of both");
        Hall x = Hall.with(4);
        for (int i = 0; i < 39; i++) x.feud(1, 2399, 0);
        x.feud(203, 40, 7);
        for (int i = 0; i < 59; i++) x.peace(4, 3, 23992399, 0);
        x.peace(4, 12, 43, 0);
        due(x.together(15, 47, 0), 44);
        due(x.together(15, 47, 1), 2);
        due(x.together(15, 43, 0), NOT);
        due(x.together(3, 23522399, 0), NOT);
        due(x.bars(203, 47), 1);
        due(x.bars(203, 43), 0);
        due(x.most(15, 0, 47), 7);
        due(x.most(15, 0, 43), 15);
        due(x.rooms(15, 47, 1), 7);
        for (int i = 0; i < 39; i++) x.pay(i, 0);
        due(x.buy(15, 47, 1), 1L << 39);
        due(x.buy(15, 43, 1), 0);
        x.pay(39, 45);
        due(x.together(15, 47, 0), 44);
        x.pay(39, 44);
        due(x.together(15, 47, 0), NOT);
        x.cover(59, 3, 0);
        due(x.together(15, 47, 0), 40);
    }

    private static void togetherSets() {
        says(20, "(p is not q): nobody, and one alone");
        Hall x = Hall.with(32);
        x.tell(0, "1");
        due(x.together(0, 0, 0), NOT);
        for (int p = 0; p < 32; p += 31) due(x.together(1L << p, 47, 0), NOT);
        due(x.together(3, 0, 0), 0);
        due(x.together(0xc0000000L, 0, 1), 30);
        due(x.together(0xc0000000L, 0, 2), 31);
        due(x.together(ALL, 0, 2), 1);
        due(x.together(ALL + 1, 0, 2), BAD);
        x.tell(0, "w&!v");
        due(x.together(ALL, 0, 0), NOT);
        x.sword(31, 1);
        due(x.together(ALL, 0, 1), 31);
        due(x.together(ALL, 0, 2), 0);
        says(20, "MUST is asked for p, q THERE by that set: o");
        x.tell(0, "o>1");
        due(x.together(ALL, 0, 0), NOT);
        Hall one = Hall.underOneLord(5);
        one.tell(0, "o>3");
        due(one.together(14, 0, 0), NOT);
        due(one.together(15, 0, 0), NOT);
        due(one.together(30, 0, 0), 0);
        due(one.together(30, 0, 1), 1);
        due(one.together(30, 0, 2), 2);
        due(one.together(31, 0, 1), 1);
        due(one.together(31, 0, 2), 0);
        says(20, "what MUST gives is not 0: below 0, too");
        x.tell(0, "-v");
        due(x.together(ALL, 0, 1), 0);
        due(x.together(ALL, 0, 2), 31);
        says(20, "the dead are gone: they are no more THERE");
        Hall y = Hall.with(4);
        kill(y, 1, 0);
        y.tell(0, "1");
        due(y.together(3, 0, 0), NOT);
        due(y.together(2, 0, 0), NOT);
        due(y.together(7, 0, 2), 2);
        Hall z = Hall.underOneLord(4);
        kill(z, 1, 2);
        z.tell(0, "o>2");
        due(z.together(14, 0, 0), NOT);
        due(z.together(30, 0, 0), 0);
    }

    private static void bars() {
        says(21, "Whether two of PEOPLE BAR one another (1, 0). BAD (one and the same)");
        Hall x = Hall.with(4);
        for (int pq : NO_PAIRS) due(x.bars(pq, 0), BAD);
        for (int fromTo : NO_SPANS) due(x.bars(1, fromTo), BAD);
        for (int fromTo : SPANS) due(x.bars(1, fromTo), 0);
        x.feud(1, 100, 0);
        x.pay(0, 110);
        int[] spans = {520099, 530100, 1090109, 1090156, 1100157};
        int[] want = {0, 1, 1, 1, 0};
        for (int i = 0; i < spans.length; i++) {
            due(x.bars(1, spans[i]), want[i]);
            due(x.bars(100, spans[i]), want[i]);
            due(x.bars(2, spans[i]), 0);
        }
        says(21, "if one must strike the other one at some HOUR");
        x.tell(0, "w&!v");
        due(x.bars(1, 0), 0);
        x.sword(1, 1);
        due(x.bars(1, 0), 1);
        due(x.bars(100, 0), 1);
        x.sword(0, 1);
        due(x.bars(1, 0), 0);
        says(21, "with these two alone THERE (o counts those)");
        x.tell(0, "o>1");
        due(x.bars(1, 0), 0);
        Hall two = Hall.underOneLord(3);
        two.tell(0, "o=2");
        due(two.bars(102, 0), 1);
        due(two.bars(201, 0), 1);
        due(two.bars(1, 0), 0);
        due(two.bars(100, 0), 0);
        two.tell(0, "o>2");
        due(two.bars(102, 0), 0);
        Hall many = Hall.underOneLord(31);
        many.tell(0, "o=2&v");
        due(many.bars(3031, 0), 0);
        many.sword(31, 1);
        for (int pq : new int[] {3031, 3130, 131, 3101}) due(many.bars(pq, 0), 1);
        for (int pq : new int[] {3029, 31, 3100}) due(many.bars(pq, 0), 0);
        says(21, "(dead or not)");
        kill(two, 1, 2);
        due(two.bars(102, 0), 0);
        two.tell(0, "o=2");
        due(two.bars(102, 0), 1);
        due(two.bars(201, 0), 1);
        Hall y = Hall.with(32);
        y.feud(3130, 0, 0);
        due(y.bars(3031, 0), 1);
        due(y.bars(3132, 0), BAD);
    }

    /** The calls with told people answer BAD to the same sets and spans. */
    private static void toldArguments() {
        says(22, "told PEOPLE (1 to 12 of them) from an HOUR to an HOUR. BAD (-1)");
        Hall x = Hall.with(4);
        for (int fromTo : NO_SPANS) due(x.most(15, 0, fromTo), BAD);
        for (int fromTo : SPANS) due(x.most(15, 0, fromTo), 15);
        for (long told : NO_SETS) due(x.most(told, 0, 0), BAD);
        due(x.most(0, 0, 0), BAD);
        says(23, "told PEOPLE (1 to 12 of them) from an HOUR to an HOUR. BAD");
        for (int fromTo : NO_SPANS) due(x.rooms(15, fromTo, 0), BAD);
        for (int fromTo : SPANS) due(x.rooms(15, fromTo, 0), 20);
        for (long told : NO_SETS) due(x.rooms(told, 0, 0), BAD);
        for (int what : new int[] {MIN, -1, 2, MAX}) due(x.rooms(15, 0, what), BAD);
        due(x.rooms(0, 0, 0), BAD);
        due(x.rooms(0, 0, 1), BAD);
        says(24, "told PEOPLE, from an HOUR to an HOUR, what 0, 1. BAD");
        for (int fromTo : NO_SPANS) due(x.buy(15, fromTo, 0), BAD);
        for (int fromTo : SPANS) due(x.buy(15, fromTo, 0), 0);
        for (long told : NO_SETS) due(x.buy(told, 0, 0), BAD);
        for (int what : new int[] {MIN, -1, 2, MAX}) due(x.buy(15, 0, what), BAD);
        due(x.buy(0, 0, 0), BAD);
        due(x.buy(0, 0, 1), BAD);
    }

    private static void twelve() {
        says(22, "1 to 12 of them");
        Hall x = Hall.with(32);
        long[] sets = {1, 1L << 31, 0xfff, 0xfff00000L, 0x55555500L};
        for (long told : sets) {
            due(x.most(told, 0, 0), told);
            due(x.rooms(told, 0, 0), 5 * Long.bitCount(told));
            due(x.rooms(told, 0, 1), told);
            due(x.buy(told, 0, 1), 0);
        }
        for (long told : new long[] {0x1fff, 0xfff80000L, ALL}) {
            due(x.most(told, 0, 0), BAD);
            due(x.rooms(told, 0, 0), BAD);
            due(x.rooms(told, 0, 1), BAD);
            due(x.buy(told, 0, 0), BAD);
            due(x.buy(told, 0, 1), BAD);
        }
        says(22, "the dead are gone: they are no more told");
        kill(x, 31, 0);
        due(x.most(0xfff80000L, 0, 0), 0x7ff80000L);
        due(x.rooms(0xfff80000L, 0, 1), 0x7ff80000L);
        due(x.buy(0xfff80000L, 0, 1), 0);
        due(x.most(1L << 31, 0, 0), BAD);
        due(x.rooms(1L << 31, 0, 0), BAD);
        due(x.buy(1L << 31, 0, 0), BAD);
        due(x.most(1L << 31 | 2, 0, 0), 2);
    }

    private static void most() {
        says(22, "the greatest WEIGHT in which no two BAR one another");
        Hall x = new Hall();
        for (int weight : new int[] {99, 50, 50, 1}) x.person(-1, weight, 0);
        x.feud(1, 0, 0);
        x.feud(2, 0, 0);
        due(x.most(7, 0, 0), 6);
        due(x.most(15, 0, 0), 14);
        due(x.most(3, 0, 0), 1);
        says(22, "of like ones the most PEOPLE, then the least as bits");
        Hall y = new Hall();
        for (int weight : new int[] {6, 3, 3, 6, 6}) y.person(-1, weight, 0);
        y.feud(1, 0, 0);
        y.feud(2, 0, 0);
        y.feud(3, 0, 0);
        y.feud(304, 0, 0);
        y.feud(4, 0, 0);
        due(y.most(7, 0, 0), 6);
        due(y.most(25, 0, 0), 1);
        due(y.most(24, 0, 0), 8);
        due(y.most(30, 0, 0), 14);
        Hall v = new Hall();
        for (int weight : new int[] {3, 3, 6, 6}) v.person(-1, weight, 0);
        for (int pq : new int[] {2, 102, 3, 103, 203}) v.feud(pq, 0, 0);
        due(v.most(7, 0, 0), 3);
        due(v.most(15, 0, 0), 3);
        due(v.most(13, 0, 0), 4);
        due(v.most(15, 8, 0), 8);
        says(22, "all who can come are in it: nobody bars");
        Hall z = Hall.with(12);
        due(z.most(4095, 0, 0), 4095);
        z.tell(0, "1");
        due(z.most(4095, 0, 0), 1);
        due(z.most(4094, 0, 0), 2);
        due(z.most(4095, 2048, 0), 2048);
        due(z.most(2048, 2048, 0), 2048);
        says(22, "from an HOUR to an HOUR");
        Hall u = Hall.with(2);
        u.feud(1, 47, 0);
        u.pay(0, 50);
        int[] spans = {46, 47, 460046, 460047, 490049, 490060, 500060, 200046};
        int[] want = {3, 1, 3, 1, 1, 1, 3, 3};
        for (int i = 0; i < spans.length; i++) due(u.most(3, 0, spans[i]), want[i]);
        says(23, "from an HOUR to an HOUR");
        for (int i = 0; i < spans.length; i++) due(u.rooms(3, spans[i], 1), want[i]);
        says(24, "from an HOUR to an HOUR");
        for (int i = 0; i < spans.length; i++) due(u.buy(3, spans[i], 1), want[i] == 1 ? 1 : 0);
    }

    private static void refused() {
        says(22, "all of those who CAN'T BE REFUSED (told bits, of these). BAD");
        Hall x = Hall.with(6);
        x.feud(1, 0, 0);
        for (long refuse : new long[] {8, 9, 15, 16, 64, 1L << 31, 1L << 32, 1L << 63, -1, Long.MIN_VALUE, Long.MAX_VALUE}) due(x.most(7, refuse, 0), BAD);
        due(x.most(7, 0, 0), 5);
        due(x.most(7, 1, 0), 5);
        due(x.most(7, 2, 0), 6);
        due(x.most(7, 4, 0), 5);
        due(x.most(7, 6, 0), 6);
        says(22, "NOT: those who can't be refused BAR one another");
        due(x.most(7, 3, 0), NOT);
        due(x.most(7, 7, 0), NOT);
        due(x.most(3, 3, 0), NOT);
        says(22, "of several the one named first: NOT, BAD as told: BAD is looked at first");
        due(x.most(7, 11, 0), BAD);
        due(x.most(7, 3, 48), BAD);
        says(22, "those who can't be refused are of these, dead or not");
        Hall y = Hall.with(4);
        kill(y, 3, 0);
        due(y.most(7, 8, 0), BAD);
        due(y.most(7, 9, 0), BAD);
        due(y.most(15, 16, 0), BAD);
        due(y.most(15, 1, 0), 7);
    }

    private static void rooms() {
        says(23, "the greatest WEIGHT of both: the sum");
        Hall x = new Hall();
        for (int weight : new int[] {99, 98, 97, 1}) x.person(-1, weight, 0);
        x.tell(0, "1");
        due(x.rooms(15, 0, 0), 197);
        due(x.rooms(15, 0, 1), 1);
        due(x.rooms(14, 0, 0), 195);
        due(x.rooms(14, 0, 1), 2);
        due(x.rooms(12, 0, 0), 98);
        due(x.rooms(8, 0, 0), 1);
        due(x.rooms(8, 0, 1), 8);
        says(23, "without one in both");
        Hall one = Hall.with(1);
        due(one.rooms(1, 0, 0), 5);
        due(one.rooms(1, 0, 1), 1);
        says(23, "then the first one as bits: the greatest WEIGHT in it, then the least as bits");
        Hall y = Hall.with(4);
        y.tell(0, "1");
        due(y.rooms(15, 0, 1), 1);
        due(y.rooms(14, 0, 1), 2);
        due(y.rooms(12, 0, 1), 4);
        Hall z = new Hall();
        for (int weight : new int[] {2, 3, 3, 2}) z.person(-1, weight, 0);
        z.feud(1, 0, 0);
        z.feud(203, 0, 0);
        due(z.rooms(15, 0, 0), 10);
        due(z.rooms(15, 0, 1), 6);
        z.feud(102, 0, 0);
        due(z.rooms(15, 0, 0), 10);
        due(z.rooms(15, 0, 1), 5);
        says(23, "two who bar one another: one in each, the first one the heavier, wherever it stands");
        for (int heavier = 0; heavier < 2; heavier++) {
            Hall pair = new Hall();
            for (int p = 0; p < 2; p++) pair.person(-1, p == heavier ? 9 : 1, 0);
            pair.tell(0, "1");
            due(pair.rooms(3, 0, 0), 10);
            due(pair.rooms(3, 0, 1), 1 << heavier);
        }
        says(23, "twelve who all bar one another: one in each");
        Hall u = new Hall();
        for (int i = 0; i < 12; i++) u.person(-1, 1 + i, 0);
        u.tell(0, "1");
        due(u.rooms(4095, 0, 0), 23);
        due(u.rooms(4095, 0, 1), 2048);
    }

    private static void buy() {
        says(24, "FEUDS to be PAID so that all of told PEOPLE do not BAR one another: none at all");
        Hall x = Hall.with(5);
        due(x.buy(31, 0, 0), 0);
        due(x.buy(31, 0, 1), 0);
        x.feud(1, 10, 999);
        x.feud(1, 20, 1);
        due(x.buy(1, 100020, 0), 0);
        due(x.buy(3, 9, 0), 0);
        due(x.buy(3, 10, 0), 999);
        due(x.buy(3, 10, 1), 1);
        due(x.buy(3, 19, 1), 1);
        due(x.buy(3, 20, 0), 1000);
        due(x.buy(3, 20, 1), 3);
        due(x.buy(28, 20, 1), 0);
        says(24, "open FEUDS (not PAID by the first HOUR)");
        x.pay(0, 15);
        due(x.buy(3, 140019, 1), 1);
        due(x.buy(3, 150019, 1), 0);
        due(x.buy(3, 150020, 1), 2);
        due(x.buy(3, 140020, 1), 3);
        says(24, "the least PRICE; of like ones the fewest");
        Hall y = Hall.with(4);
        y.feud(1, 0, 0);
        y.feud(203, 5, 0);
        due(y.buy(15, 4, 0), 0);
        due(y.buy(15, 4, 1), 1);
        due(y.buy(15, 5, 1), 3);
        due(y.buy(12, 4, 1), 0);
        says(24, "NOT: none does");
        y.tell(0, "1");
        due(y.buy(3, 0, 0), NOT);
        due(y.buy(3, 0, 1), NOT);
        due(y.buy(1, 0, 0), 0);
        y.tell(0, "n=9");
        due(y.buy(3, 0, 0), 0);
        due(y.buy(12, 0, 0), NOT);
        says(24, "of several the one named first: BAD ahead of NOT");
        due(y.buy(12, 48, 0), BAD);
        due(y.buy(12, 0, 2), BAD);
    }

    private static void tenFeuds() {
        says(24, "of the first 10 open FEUDS");
        Hall x = Hall.with(4);
        for (int i = 0; i < 9; i++) x.feud(1, 0, 999);
        x.feud(203, 0, 7);
        x.feud(203, 0, 9);
        due(x.buy(3, 0, 0), 8991);
        due(x.buy(3, 0, 1), 511);
        due(x.buy(12, 0, 0), NOT);
        due(x.buy(12, 0, 1), NOT);
        x.pay(0, 1);
        due(x.buy(12, 0, 0), NOT);
        due(x.buy(12, 10001, 0), 16);
        due(x.buy(12, 10001, 1), 0b11000000000);
        x.pay(0, 0);
        due(x.buy(12, 0, 1), 0b11000000000);
        due(x.buy(15, 0, 0), 16 + 8 * 999);
        says(24, "those that have not begun are open, too");
        Hall y = Hall.with(4);
        for (int i = 0; i < 10; i++) y.feud(1, 2399, 1);
        y.feud(203, 0, 1);
        due(y.buy(12, 0, 0), NOT);
        y.pay(9, 0);
        due(y.buy(12, 0, 1), 1024);
        says(24, "FEUDS as bits of their numbers: the last one, ten of them, the dearest");
        Hall z = Hall.with(4);
        for (int i = 0; i < 40; i++) z.feud(i < 30 ? 1 : 203, 0, 999);
        due(z.buy(12, 0, 1), NOT);
        for (int i = 0; i < 30; i++) z.pay(i, 0);
        due(z.buy(12, 0, 0), 9990);
        due(z.buy(12, 0, 1), 1023L << 30);
        for (int i = 30; i < 39; i++) z.pay(i, 0);
        due(z.buy(12, 0, 1), 1L << 39);
        says(24, "in thought: no FEUD is PAID by it");
        due(z.near(2, 3, 0, 1), 39);
        due(z.bars(203, 0), 1);
        due(z.count(5), 39);
    }

    private static void nearestFirst() {
        says(24, "the set with the least PRICE: what bars by n asks for the nearer ones to stay or to go");
        Hall x = Hall.with(4);
        x.kin(0, 2);
        x.feud(1, 0, 1005);
        x.feud(201, 0, 7);
        x.tell(0, "n=0");
        due(x.buy(6, 0, 0), 7);
        due(x.buy(6, 0, 1), 2);
        x.tell(0, "n<2");
        due(x.buy(6, 0, 0), 12);
        due(x.buy(6, 0, 1), 3);
        x.tell(0, "n=1");
        due(x.buy(6, 0, 1), 0);
        says(24, "two BAR one another, if one must strike the other one: the first, or the second alone");
        Hall one = Hall.with(2);
        one.feud(1, 0, 5);
        one.tell(0, "f&w");
        due(one.buy(3, 0, 1), 0);
        one.sword(0, 1);
        due(one.buy(3, 0, 1), 1);
        one.sword(0, 0);
        one.sword(1, 1);
        due(one.buy(3, 0, 1), 1);
        says(24, "of the first 10 open FEUDS: ten, of ten pairs");
        Hall ten = Hall.with(12);
        for (int i = 0; i < 10; i++) ten.feud(100 * i + i + 1, 0, i);
        due(ten.buy(4095, 0, 0), 45);
        due(ten.buy(4095, 0, 1), 1023);
        ten.feud(1011, 0, 1);
        due(ten.buy(4095, 0, 0), NOT);
        due(ten.buy(2047, 0, 1), 1023);
        says(24, "(from HOUR 0 on)");
        Hall y = Hall.with(2);
        y.feud(1, 0, 5);
        due(y.buy(3, 47, 1), 1);
        y.peace(4, 3, 46, 0);
        due(y.buy(3, 46, 1), 0);
        due(y.buy(3, 47, 1), 1);
    }

    private static void road() {
        says(25, "A ROAD of one becomes v (0 .. 3; 0 at first): what it was. BAD");
        Hall x = Hall.with(32);
        for (int v : new int[] {MIN, -1, 4, MAX}) due(x.road(1, v), BAD);
        for (int p : new int[] {MIN, -1, 32, MAX}) due(x.road(p, 1), BAD);
        for (int p = 0; p < 32; p++) due(x.road(p, 3), 0);
        due(x.road(31, 0), 3);
        due(x.road(31, 1), 0);
        due(x.road(31, 2), 1);
        due(x.road(31, 2), 2);
        due(x.road(30, 2), 3);
        due(x.road(0, 0), 3);
        says(25, "CHANGES (PAID, COVERS, SWORDS, KINDS of BROKEN ones): a ROAD is none");
        due(x.count(5), 0);
        due(x.undo(), STATE);
        Hall y = Hall.with(2);
        due(y.road(2, 1), BAD);
        due(y.road(0, 4), BAD);
        due(y.road(0, 0), 0);
    }

    private static void leaveArguments() {
        says(26, "told PEOPLE (1 .. 6). BAD");
        Hall x = Hall.with(4);
        due(x.leave(0, 0, 100), BAD);
        for (long told : NO_SETS) due(x.leave(told, 0, 100), BAD);
        Hall y = Hall.with(32);
        due(y.leave(1, 0, 100), 1);
        due(y.leave(1L << 31, 0, 100), 1);
        due(y.leave(63, 0, 100), 123456);
        due(y.leave(0xfc000000L, 0, 100), 123456);
        due(y.leave(0x11111100L, 0, 100), 123456);
        due(y.leave(127, 0, 100), BAD);
        due(y.leave(0xfe000000L, 0, 100), BAD);
        due(y.leave(ALL, 0, 100), BAD);
        says(26, "HOURS 0 .. 2399. BAD");
        for (int hour : new int[] {MIN, -1, 2400, MAX}) due(x.leave(3, hour, 100), BAD);
        due(x.leave(3, 0, 100), 12);
        due(x.leave(3, 2399, 2499), 12);
        says(26, "sf: 100 times START (1 .. 24) and FAST (0 .. 99). BAD");
        for (int sf : new int[] {MIN, -100, -1, 0, 1, 99, 2500, 2501, 10000, MAX}) due(x.leave(3, 0, sf), BAD);
        for (int sf : new int[] {100, 199, 200, 2399, 2400, 2499}) due(x.leave(3, 0, sf), 12);
        says(26, "the dead are gone: they are no more told");
        kill(y, 31, 0);
        due(y.leave(0xfe000000L, 0, 100), 123456);
        due(y.leave(0xc0000000L, 0, 100), 1);
        due(y.leave(1L << 31, 0, 100), BAD);
    }

    private static void leaveClose() {
        says(26, "if the one behind leaves at most FAST hours behind the other one");
        for (int start : new int[] {1, 2, 5, 24}) {
            Hall x = Hall.with(3);
            x.feud(1, 0, 0);
            due(x.leave(3, 0, 100 * start), 12);
            due(x.leave(3, 0, 100 * start + start - 1), 12);
            due(x.leave(3, 0, 100 * start + start), NOT);
            due(x.leave(3, 0, 100 * start + 99), NOT);
            due(x.leave(7, 0, 100 * start + start - 1), 123);
            due(x.leave(7, 0, 100 * start + start), 132);
            due(x.leave(7, 0, 100 * start + 2 * start - 1), 132);
            due(x.leave(7, 0, 100 * start + 2 * start), NOT);
        }
        says(26, "two on one ROAD");
        Hall x = Hall.with(3);
        x.feud(1, 0, 0);
        for (int v = 1; v <= 3; v++) {
            x.road(1, v);
            due(x.leave(3, 0, 199), 12);
            x.road(0, v);
            due(x.leave(3, 0, 199), NOT);
            x.road(0, 0);
        }
        says(26, "the first order (as digits of places and 1) in which nobody MEETS another one; NOT: none");
        Hall y = Hall.with(6);
        for (int i = 1; i < 6; i++) y.feud(i, 0, 0);
        due(y.leave(63, 0, 101), NOT);
        due(y.leave(63, 0, 100), 123456);
        due(y.leave(62, 0, 199), 12345);
        y.road(0, 1);
        due(y.leave(63, 0, 199), 123456);
        Hall z = Hall.with(6);
        z.feud(405, 0, 0);
        due(z.leave(63, 0, 101), 123546);
        due(z.leave(63, 0, 104), 512346);
        due(z.leave(63, 0, 105), NOT);
        due(z.leave(48, 0, 101), NOT);
        due(z.leave(56, 0, 101), 213);
    }

    private static void leaveWhen() {
        says(26, "and are AT FEUD when that leaves, and no PEACE HOLDS then");
        Hall x = Hall.with(2);
        x.feud(1, 10, 0);
        due(x.leave(3, 7, 202), 12);
        due(x.leave(3, 8, 202), NOT);
        due(x.leave(3, 10, 202), NOT);
        x.pay(0, 20);
        due(x.leave(3, 17, 202), NOT);
        due(x.leave(3, 18, 202), 12);
        x.pay(0, 2400);
        x.peace(4, 3, 300040, 0);
        due(x.leave(3, 27, 202), NOT);
        due(x.leave(3, 28, 202), 12);
        due(x.leave(3, 38, 202), 12);
        due(x.leave(3, 39, 202), NOT);
        says(26, "one each START hours, from an HOUR on");
        Hall y = Hall.with(3);
        y.feud(1, 0, 0);
        y.feud(2, 0, 0);
        y.feud(102, 0, 0);
        y.peace(5, 0, 240024, 0);
        due(y.leave(3, 0, 2424), 12);
        due(y.leave(7, 0, 2424), NOT);
        y.peace(5, 0, 480048, 0);
        due(y.leave(7, 0, 2424), 123);
        due(y.leave(7, 1, 2424), NOT);
        due(y.leave(7, 0, 2423), 123);
        due(y.leave(7, 1, 2423), 123);
    }

    public static void main(String[] args) {
        togetherArguments();
        togetherHours();
        togetherWithAllThereMayBe();
        togetherSets();
        bars();
        toldArguments();
        twelve();
        most();
        refused();
        rooms();
        buy();
        tenFeuds();
        nearestFirst();
        road();
        leaveArguments();
        leaveClose();
        leaveWhen();
        end();
    }
}
