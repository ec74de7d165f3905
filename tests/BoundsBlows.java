/** The boundary cases of section 5 and of promises 27 to 33: blows, a wedding, changes undone. */
public final class BoundsBlows extends Bounds {
    private static final long ALL = 0xffffffffL;
    private static final int MUST = 0, HELPS = 1, BROKEN = 6;

    private static Hall calm(int people) {
        Hall x = Hall.with(people);
        x.tell(MUST, "0");
        x.tell(HELPS, "0");
        return x;
    }

    private static void row(Hall x, int... blows) {
        for (int i = 0; i < blows.length; i++) due(x.blow(i), blows[i]);
        due(x.blow(blows.length), BAD);
    }

    private static void strikeArguments() {
        says(27, "BAD (one and the same, dead, not THERE)");
        Hall x = calm(4);
        for (int pq : new int[] {0, 101, 303, 4, 400, 404, 99, 10001, MAX, -1, -100, -101, MIN}) due(x.strike(pq, 15, 0, 0), BAD);
        for (long there : new long[] {0, 1, 2, 12, 13, 14}) due(x.strike(1, there, 0, 0), BAD);
        for (long there : new long[] {16 | 3, 31, 1L << 31 | 3, 1L << 32 | 3, 1L << 63 | 3, -1, Long.MIN_VALUE, Long.MAX_VALUE}) due(x.strike(1, there, 0, 0), BAD);
        for (int hour : new int[] {MIN, -1, 2400, MAX}) due(x.strike(1, 15, hour, 0), BAD);
        for (int deed : new int[] {MIN, -1, 2, MAX}) due(x.strike(1, 15, 0, deed), BAD);
        due(x.alive(), -1);
        due(x.blow(0), BAD);
        due(x.count(6), 0);
        due(x.strike(1, 3, 0, 0), 1);
        due(x.strike(302, 12, 2399, 0), 1);
        due(x.strike(302, 15, 2399, 1), 1);
        says(27, "dead");
        due(x.strike(302, 15, 0, 0), BAD);
        due(x.strike(203, 15, 0, 1), BAD);
        due(x.strike(2, 15, 0, 1), BAD);
        due(x.count(6), 1);
        due(x.strike(3, 15, 0, 0), 1);
        due(x.alive(), 3);
        Hall y = calm(32);
        due(y.strike(3130, ALL, 0, 0), 1);
        due(y.alive(), ALL & ~(1L << 30));
        due(y.strike(3132, ALL, 0, 0), BAD);
        due(y.strike(3130, ALL + 1, 0, 0), BAD);
    }

    private static void thoughtAndDeed() {
        says(27, "deed: 1 IN DEED, 0 in thought; In thought: all is as before");
        Hall x = calm(3);
        x.peace(1, 7, 10, 0);
        due(x.strike(1, 7, 0, 0), 1);
        due(x.of(1, 3), 0);
        due(x.count(6), 0);
        due(x.count(5), 0);
        due(x.ofPeace(0, 0), 1);
        due(x.strike(1, 7, 0, 0), 1);
        says(27, "IN DEED: PEACES stay BROKEN (a CHANGE each), the dead are gone");
        due(x.strike(1, 7, 0, 1), 1);
        due(x.of(1, 3), 1);
        due(x.of(0, 3), 0);
        due(x.count(6), 1);
        due(x.count(5), 1);
        due(x.ofPeace(0, 0), BROKEN);
        due(x.strike(2, 7, 0, 1), 1);
        due(x.count(6), 2);
        due(x.count(5), 1);
        due(x.alive(), 1);
        says(27, "the dead stay so when PEACES are whole again");
        due(x.undo(), 0);
        due(x.ofPeace(0, 0), 1);
        due(x.count(6), 2);
        due(x.of(1, 3), 1);
    }

    private static void broken() {
        says(27, "All PEACES that HOLD between the two and of which the striker is the GIVER or COVERED are BROKEN");
        Hall x = calm(4);
        x.peace(1, 0b0110, 100020, 0);   // 0: given by the striker
        x.peace(31, 0b0011, 100020, 0);  // 1: covers both
        x.peace(33, 0b0010, 100020, 0);  // 2: a road that covers the struck one alone
        x.peace(33, 0b0001, 100020, 0);  // 3: a road that covers the striker alone
        x.peace(35, 0b0000, 100020, 0);  // 4: another's king's peace
        x.peace(35, 0b0001, 100020, 0);  // 5: a king's peace that covers the striker
        x.peace(5, 0b0000, 100020, 0);   // 6: the striker's own king's peace
        x.peace(15, 0b0000, 100020, 0);  // 7: the struck one's
        x.peace(4, 0b0110, 100020, 0);   // 8: given by the striker, but does not hold between them
        x.peace(34, 0b0101, 100020, 0);  // 9: covers the striker and another
        int[] want = {6, 6, 3, 6, 5, 6, 6, 5, 4, 4};
        int[] were = {1, 1, 3, 3, 5, 5, 5, 5, 4, 4};
        due(x.strike(1, 15, 15, 0), 1);
        for (int i = 0; i < want.length; i++) due(x.ofPeace(i, 0), were[i]);
        due(x.strike(1, 15, 15, 1), 1);
        for (int i = 0; i < want.length; i++) due(x.ofPeace(i, 0), want[i]);
        due(x.count(5), 5);
        says(27, "that HOLD: from the first HOUR to the last, SALT BEHIND hours more");
        int[] hours = {9, 10, 20, 21, 25, 26};
        for (int hour : hours) {
            Hall y = calm(2);
            y.peace(1, 3, 100020, 5);
            y.peace(2, 3, 100020, 5);
            y.strike(1, 3, hour, 1);
            due(y.ofPeace(0, 0), hour >= 10 && hour <= 20 ? BROKEN : 1);
            due(y.ofPeace(1, 0), hour >= 10 && hour <= 25 ? BROKEN : 2);
            due(y.count(5), hour < 10 || hour > 25 ? 0 : hour <= 20 ? 2 : 1);
        }
        says(27, "one that is BROKEN is not BROKEN again");
        Hall y = calm(3);
        y.peace(1, 7, 10, 0);
        y.strike(1, 7, 0, 1);
        y.strike(2, 7, 0, 1);
        due(y.count(5), 1);
        says(27, "PEACES 0 .. 59: all of them at one blow");
        Hall z = calm(3);
        for (int i = 0; i < 60; i++) z.peace(1, 7, 10, 0);
        due(z.between(102, 5), 60);
        due(z.strike(1, 3, 5, 0), 1);
        due(z.between(102, 5), 60);
        due(z.strike(1, 3, 5, 1), 1);
        due(z.between(102, 5), 0);
        due(z.ofPeace(59, 0), BROKEN);
        due(z.count(5), 40);
    }

    private static void helps() {
        says(27, "who by HELPS must strike some one alive who struck by then: the first such pair (r, then who struck, by numbers)");
        Hall x = calm(5);
        x.tell(HELPS, "1");
        due(x.strike(1, 3, 0, 0), 1);
        due(x.alive(), 1);
        due(x.strike(1, 7, 0, 0), 2);
        row(x, 1, 200);
        due(x.alive(), 4);
        due(x.strike(1, 15, 0, 0), 3);
        row(x, 1, 200, 302);
        due(x.strike(302, 31, 0, 0), 4);
        row(x, 302, 3, 100, 401);
        due(x.alive(), 16);
        says(27, "of those alive THERE: nobody else helps");
        due(x.strike(1, 19, 0, 0), 2);
        row(x, 1, 400);
        due(x.strike(4, 17, 0, 0), 1);
        says(27, "HELPS first, else who by MUST must strike another one alive: the first such pair");
        x.tell(HELPS, "w");
        x.tell(MUST, "1");
        x.sword(3, 1);
        due(x.strike(1, 15, 0, 0), 3);
        row(x, 1, 300, 203);
        due(x.alive(), 4);
        says(27, "by MUST: p, then q");
        x.tell(HELPS, "0");
        x.tell(MUST, "w&!v");
        x.sword(4, 1);
        due(x.strike(1, 31, 0, 0), 3);
        row(x, 1, 300, 302);
        due(x.alive(), 24);
        says(27, "what gives a number below 0 is not 0");
        x.tell(HELPS, "-1");
        due(x.strike(1, 7, 0, 0), 2);
        x.tell(HELPS, "0");
        x.tell(MUST, "-1");
        due(x.strike(1, 7, 0, 0), 2);
        row(x, 1, 2);
    }

    private static void inSteps() {
        says(27, "are BROKEN (just in this telling): what others must hangs on it");
        Hall x = Hall.with(4);
        x.feud(203, 0, 0);
        x.peace(1, 15, 10, 0);
        due(x.must(203, 15, 5), 0);
        due(x.strike(1, 15, 5, 0), 2);
        row(x, 1, 203);
        due(x.must(203, 15, 5), 0);
        due(x.strike(1, 15, 11, 0), 2);
        due(x.strike(1, 3, 5, 0), 1);
        says(27, "are BROKEN: by an earlier blow, and by a later one, till the telling ends");
        Hall u = Hall.with(6);
        u.feud(203, 0, 0);
        u.feud(405, 0, 0);
        u.peace(1, 63, 10, 0);
        due(u.strike(1, 63, 5, 0), 3);
        row(u, 1, 203, 405);
        due(u.alive(), 0b010101);
        u.peace(24, 4 | 8, 200030, 0);
        u.peace(1, 63, 200030, 0);
        due(u.strike(1, 63, 25, 0), 2);
        row(u, 1, 405);
        u.peace(21, 48, 400050, 0);
        due(u.strike(1, 63, 45, 0), 2);
        row(u, 1, 203);
        u.peace(25, 0, 600070, 0);
        u.peace(1, 3 | 4 | 8, 600070, 0);
        due(u.strike(1, 63, 65, 0), 1);
        due(u.strike(203, 63, 65, 0), 2);
        row(u, 203, 405);
        due(u.strike(1, 63, 5, 1), 3);
        due(u.count(5), 1);
        due(u.ofPeace(0, 0), BROKEN);
        says(27, "THERE: o counts those alive");
        Hall y = Hall.underOneLord(5);
        y.tell(HELPS, "0");
        y.tell(MUST, "o>2");
        due(y.strike(102, 62, 0, 0), 3);
        row(y, 102, 103, 104);
        due(y.alive(), 34);
        due(y.strike(102, 63, 0, 0), 4);
        row(y, 102, 100, 103, 104);
        y.tell(MUST, "o>4");
        due(y.strike(102, 62, 0, 0), 1);
        Hall free = Hall.with(5);
        free.tell(HELPS, "o>1");
        free.tell(MUST, "o>1");
        due(free.strike(1, 31, 0, 0), 1);
        free.tell(MUST, "o");
        due(free.strike(1, 31, 0, 0), 4);
        says(27, "till nobody must, or 31 blows");
        Hall z = Hall.with(32);
        z.tell(MUST, "1");
        due(z.strike(3130, ALL, 0, 0), 31);
        due(z.blow(0), 3130);
        due(z.blow(1), 1);
        due(z.blow(29), 29);
        due(z.blow(30), 31);
        due(z.blow(31), BAD);
        due(z.alive(), 1);
        z.tell(HELPS, "1");
        due(z.strike(1, ALL, 0, 0), 31);
        due(z.blow(30), 3130);
        due(z.alive(), 1L << 31);
        due(z.strike(1, ALL, 0, 1), 31);
        due(z.count(6), 31);
        due(z.together(ALL, 0, 0), NOT);
        due(z.worst(ALL, 0), NOT);
        due(z.strike(3130, ALL, 0, 0), BAD);
    }

    private static void whoStruckByThen() {
        says(27, "some one alive who struck by then: not in the latest blow alone, the first by numbers");
        Hall x = Hall.underOneLord(5);
        x.feud(304, 0, 0);
        x.sword(5, 1);
        x.tell(HELPS, "o<4&w");
        due(x.strike(102, 62, 0, 0), 4);
        row(x, 102, 304, 501, 503);
        due(x.alive(), 32);
        says(27, "d STEPS of r and who was struck: by the one whom r would strike");
        Hall y = Hall.with(6);
        y.feud(203, 0, 0);
        y.sword(4, 1);
        y.kin(3, 4);
        due(y.strike(1, 31, 0, 0), 3);
        row(y, 1, 203, 402);
        due(y.alive(), 17);
        y.kin(1, 5);
        y.sword(5, 1);
        due(y.strike(1, 63, 0, 0), 4);
        row(y, 1, 500, 203, 402);
        due(y.alive(), 48);
        says(27, "some one alive who struck: not the one who was struck since, nor one who struck in an earlier telling");
        Hall z = calm(4);
        z.tell(HELPS, "w");
        z.sword(3, 1);
        due(z.strike(1, 3, 0, 0), 1);
        due(z.strike(201, 14, 0, 0), 2);
        row(z, 201, 302);
        due(z.strike(201, 15, 0, 0), 2);
        row(z, 201, 302);
        due(z.alive(), 9);
    }

    private static void blowAndAlive() {
        says(28, "THE latest ROW: the i-th blow (100 r and whom). BAD");
        Hall x = calm(3);
        for (int i : new int[] {MIN, -1, 0, 1, 31, MAX}) due(x.blow(i), BAD);
        says(29, "-1: none was told");
        due(x.alive(), -1);
        x.strike(0, 7, 0, 0);
        due(x.alive(), -1);
        x.worst(7, 0);
        due(x.alive(), -1);
        due(x.blow(0), BAD);
        says(28, "the i-th: none but those that are there");
        x.strike(201, 7, 0, 0);
        for (int i : new int[] {MIN, -1, 1, 2, 30, 31, MAX}) due(x.blow(i), BAD);
        due(x.blow(0), 201);
        says(29, "LEFT alive by it, as bits");
        due(x.alive(), 5);
        x.strike(201, 6, 0, 0);
        due(x.alive(), 4);
        says(28, "a shorter ROW behind a longer one");
        x.tell(MUST, "1");
        due(x.strike(201, 7, 0, 0), 2);
        row(x, 201, 2);
        x.tell(MUST, "0");
        due(x.strike(1, 7, 0, 0), 1);
        row(x, 1);
        says(28, "what is answered BAD is no ROW");
        due(x.strike(2, 7, 2400, 1), BAD);
        row(x, 1);
        due(x.alive(), 5);
        Hall y = calm(32);
        y.strike(1, 3L | 1L << 31, 0, 0);
        due(y.alive(), 1L << 31 | 1);
    }

    private static void worst() {
        says(30, "NOT: fewer than two THERE. BAD");
        Hall x = calm(4);
        for (long there : new long[] {16, 31, 1L << 31, 1L << 32, 1L << 32 | 3, 1L << 63 | 3, -1, Long.MIN_VALUE, Long.MAX_VALUE}) due(x.worst(there, 0), BAD);
        for (int hour : new int[] {MIN, -1, 2400, MAX}) {
            due(x.worst(15, hour), BAD);
            due(x.worst(0, hour), BAD);
        }
        due(x.worst(0, 0), NOT);
        for (int p = 0; p < 4; p++) due(x.worst(1L << p, 0), NOT);
        due(x.worst(3, 0), 1);
        due(x.worst(3, 2399), 1);
        due(x.worst(12, 0), 203);
        says(30, "of like ones the first pair (p, then q)");
        due(x.worst(15, 0), 1);
        due(x.worst(14, 0), 102);
        x.tell(HELPS, "w&d=1");
        x.kin(2, 3);
        x.sword(3, 1);
        due(x.worst(15, 0), 2);
        due(x.worst(13, 0), 2);
        due(x.worst(14, 0), 102);
        due(x.worst(12, 0), 203);
        says(30, "by whose ROW fewest are LEFT alive");
        Hall y = calm(5);
        y.kin(1, 4);
        y.tell(HELPS, "d=1");
        due(y.worst(31, 0), 1);
        due(y.worst(15, 0), 1);
        due(y.worst(21, 0), 2);
        due(y.worst(28, 0), 203);
        due(y.worst(30, 0), 201);
        says(30, "by whose ROW fewest are LEFT alive: one, behind others by which two are");
        Hall u = calm(3);
        u.kin(1, 2);
        u.sword(1, 1);
        u.tell(HELPS, "d=1&w");
        due(u.worst(7, 0), 2);
        says(30, "the first pair (p, then q), at that HOUR: q may be the first one there is");
        Hall v = Hall.with(3);
        v.kin(0, 1);
        v.sword(1, 1);
        due(v.worst(7, 5), 200);
        v.feud(2, 10, 0);
        due(v.worst(7, 9), 200);
        due(v.worst(7, 10), 1);
        due(v.worst(7, 9), 200);
        due(v.must(2, 7, 10), 1);
        due(v.worst(7, 9), 200);
        due(v.must(2, 7, 9), 0);
        due(v.worst(7, 10), 1);
        says(30, "the dead are gone: they are no more THERE");
        x.tell(HELPS, "0");
        x.strike(1, 3, 0, 1);
        due(x.worst(3, 0), NOT);
        due(x.worst(2, 0), NOT);
        due(x.worst(7, 0), 2);
        says(30, "(The latest ROW stays.)");
        row(x, 1);
        due(x.alive(), 1);
        due(x.count(6), 1);
        says(30, "of all first blows, 32 THERE");
        Hall z = calm(32);
        due(z.worst(ALL, 0), 1);
        due(z.worst(0xc0000000L, 0), 3031);
        z.tell(HELPS, "w&d=1");
        z.kin(30, 31);
        z.sword(31, 1);
        due(z.worst(ALL, 0), 30);
    }

    private static void wedArguments() {
        says(31, "BAD (one and the same, KIN)");
        Hall x = Hall.with(4);
        x.kin(0, 1);
        x.kin(1, 2);
        for (int pq : new int[] {0, 202, 4, 400, 404, 99, 10001, MAX, -1, -100, -101, MIN}) due(x.wed(pq, 0, 0), BAD);
        for (int hour : new int[] {MIN, -1, 2400, MAX}) due(x.wed(3, hour, 0), BAD);
        for (int what : new int[] {MIN, -1, 2, MAX}) due(x.wed(3, 0, what), BAD);
        for (int what = 0; what < 2; what++) {
            due(x.wed(1, 0, what), BAD);
            due(x.wed(100, 0, what), BAD);
            due(x.wed(201, 0, what), BAD);
            due(x.wed(2, 0, what), 0);
            due(x.wed(3, 2399, what), 0);
        }
        says(31, "in thought: KIN stay as they are");
        due(x.steps(0, 3), NOT);
        due(x.steps(0, 2), 2);
        due(x.count(1), 2);
        due(x.kin(0, 3), 3);
    }

    private static void wedPairs() {
        says(31, "how many pairs of PEOPLE would be AT FEUD at an HOUR that were not; how many are");
        Hall x = Hall.with(32);
        for (int i = 1; i < 16; i++) {
            x.kin(0, i);
            x.kin(16, 16 + i);
        }
        x.feud(16, 10, 1000);
        due(x.wed(16, 10, 1), 256);
        due(x.wed(16, 10, 0), 30);
        due(x.wed(1600, 10, 0), 30);
        due(x.wed(16, 9, 1), 0);
        due(x.wed(16, 9, 0), 0);
        x.pay(0, 20);
        due(x.wed(16, 19, 1), 256);
        due(x.wed(16, 20, 1), 0);
        due(x.wed(16, 20, 0), 0);
        due(x.wed(131, 10, 0), 0);
        due(x.wed(31, 10, 0), 15);
        says(31, "all pairs there are, and none");
        Hall y = Hall.with(32);
        for (int i = 1; i < 32; i++) y.kin(0, i);
        due(y.wed(102, 0, 1), 0);
        y.feud(102, 0, 2000);
        due(y.wed(102, 0, 1), 496);
        due(y.wed(102, 0, 0), 0);
        Hall two = Hall.with(2);
        due(two.wed(1, 0, 0), 0);
        two.feud(1, 0, 3000);
        due(two.wed(1, 0, 1), 1);
        due(two.wed(1, 0, 0), 0);
        says(31, "KIN 0 .. 59: in thought one more may be");
        Hall z = Hall.with(32);
        for (int i = 0; i < 31; i++) z.kin(i, i + 1);
        for (int i = 0; i < 29; i++) z.kin(i, i + 2);
        due(z.kin(29, 31), FULL);
        z.feud(31, 0, 1000);
        due(z.wed(2931, 0, 1), 6);
        due(z.wed(2931, 0, 0), 3);
        due(z.count(1), 60);
    }

    private static void undoAndRedo() {
        says(32, "UNDONE: how many may still be. STATE: none");
        Hall x = Hall.with(3);
        x.feud(1, 0, 0);
        x.peace(4, 1, 10, 0);
        due(x.undo(), STATE);
        due(x.redo(), STATE);
        x.sword(0, 1);
        due(x.redo(), STATE);
        due(x.undo(), 0);
        due(x.of(0, 2), 0);
        due(x.undo(), STATE);
        says(33, "DONE AGAIN: how many may still be. STATE: none");
        due(x.redo(), 0);
        due(x.of(0, 2), 1);
        due(x.redo(), STATE);
        due(x.count(5), 1);
        says(32, "the latest first");
        x.pay(0, 7);
        x.cover(0, 1, 1);
        x.strike(1, 3, 0, 1);
        due(x.count(5), 4);
        due(x.ofPeace(0, 0), BROKEN);
        due(x.undo(), 3);
        due(x.ofPeace(0, 0), 4);
        due(x.ofPeace(0, 5), 2);
        due(x.undo(), 2);
        due(x.ofPeace(0, 5), 1);
        due(x.near(0, 1, 7, 0), NOT);
        due(x.undo(), 1);
        due(x.near(0, 1, 7, 0), 0);
        due(x.of(0, 2), 1);
        due(x.undo(), 0);
        due(x.of(0, 2), 0);
        due(x.undo(), STATE);
        due(x.count(5), 0);
        says(33, "and DONE AGAIN");
        due(x.redo(), 3);
        due(x.of(0, 2), 1);
        due(x.redo(), 2);
        due(x.near(0, 1, 7, 0), NOT);
        due(x.redo(), 1);
        due(x.ofPeace(0, 5), 2);
        due(x.redo(), 0);
        due(x.ofPeace(0, 0), BROKEN);
        due(x.redo(), STATE);
        due(x.count(5), 4);
    }

    private static void behindIt() {
        says(33, "(as long as no other came behind)");
        for (int sort = 0; sort < 4; sort++) {
            Hall x = calm(4);
            x.feud(1, 0, 0);
            x.peace(4, 15, 10, 0);
            x.sword(0, 1);
            x.sword(1, 1);
            x.undo();
            if (sort == 0) x.pay(0, 0);
            if (sort == 1) x.cover(0, 3, 0);
            if (sort == 2) x.sword(3, 1);
            if (sort == 3) x.strike(203, 12, 0, 1);
            due(x.redo(), STATE);
            due(x.of(1, 2), 0);
            due(x.count(5), 2);
            due(x.undo(), 1);
            due(x.redo(), 0);
        }
        says(33, "telling the same number is none, and what is refused is none");
        Hall x = calm(4);
        x.feud(1, 0, 0);
        x.peace(4, 3, 10, 0);
        x.sword(0, 1);
        x.sword(1, 1);
        x.undo();
        x.pay(0, 2400);
        x.cover(0, 0, 1);
        x.cover(0, 2, 0);
        x.sword(0, 1);
        x.sword(1, 0);
        x.sword(1, 2);
        x.pay(0, 2401);
        x.pay(1, 5);
        x.cover(1, 0, 1);
        x.cover(0, 4, 1);
        due(x.count(5), 1);
        due(x.redo(), 0);
        due(x.of(1, 2), 1);
        says(33, "CHANGES (PAID, COVERS, SWORDS, KINDS of BROKEN ones): all else is none");
        x.undo();
        x.person(-1, 5, 0);
        x.kin(0, 1);
        x.feud(2, 0, 0);
        x.peace(1, 3, 200030, 0);
        x.road(0, 1);
        x.tell(MUST, "f");
        x.keep(0, 0);
        x.row(1, 0, 3);
        x.put(1, 0, 5);
        x.act(0, 0, 0);
        x.strike(1, 3, 5, 0);
        x.strike(203, 12, 5, 1);
        due(x.count(5), 1);
        due(x.redo(), 0);
        due(x.of(1, 2), 1);
    }

    private static void fortyChanges() {
        says(32, "40 at most are kept");
        for (int n = 39; n <= 42; n++) {
            Hall x = Hall.with(2);
            x.feud(1, 0, 0);
            for (int i = 0; i < n; i++) x.pay(0, i);
            int kept = Math.min(n, 40);
            due(x.count(5), kept);
            for (int i = kept - 1; i >= 0; i--) due(x.undo(), i);
            due(x.undo(), STATE);
            due(x.redo(), kept - 1);
            due(x.undo(), 0);
            due(x.pay(0, 2400), n <= 40 ? 2400 : n - 41);
        }
        says(33, "40 at most are kept: all of them DONE AGAIN");
        Hall x = Hall.with(2);
        x.feud(1, 0, 0);
        for (int i = 0; i < 45; i++) x.pay(0, i);
        for (int i = 0; i < 40; i++) x.undo();
        for (int i = 39; i >= 0; i--) due(x.redo(), i);
        due(x.redo(), STATE);
        due(x.count(5), 40);
        due(x.pay(0, 44), 44);
        due(x.pay(0, 100), 44);
        due(x.count(5), 40);
        due(x.undo(), 39);
        due(x.pay(0, 200), 44);
        due(x.count(5), 40);
        due(x.undo(), 39);
        due(x.undo(), 38);
        due(x.pay(0, 43), 43);
        says(32, "PEACES stay BROKEN (a CHANGE each): more than 40 at one blow");
        Hall y = calm(2);
        for (int i = 0; i < 60; i++) y.peace(1, 3, 10, 0);
        y.sword(0, 1);
        y.strike(1, 3, 0, 1);
        due(y.count(5), 40);
        for (int i = 59; i >= 20; i--) {
            due(y.ofPeace(i, 0), BROKEN);
            due(y.undo(), i - 20);
            due(y.ofPeace(i, 0), 1);
        }
        due(y.undo(), STATE);
        due(y.ofPeace(19, 0), BROKEN);
        due(y.ofPeace(0, 0), BROKEN);
        due(y.of(0, 2), 1);
        for (int i = 20; i < 60; i++) due(y.redo(), 59 - i);
        due(y.ofPeace(59, 0), BROKEN);
    }

    private static void manyChanges() {
        says(32, "An object is used for at most 512 calls: changes in all of them, and one UNDONE by the last");
        Hall x = Hall.with(2);
        x.feud(1, 0, 0);
        for (int i = 0; i < 506; i++) due(x.pay(0, i % 2 == 0 ? 7 : 8), i == 0 ? 2400 : i % 2 == 0 ? 8 : 7);
        due(x.count(5), 40);
        due(x.undo(), 39);
        due(x.near(0, 1, 7, 0), NOT);
    }

    /** The i-th of changes of three sorts by turns: PAID, SWORDS, COVERS. */
    private static int turn(Hall x, int i, int v) {
        return i % 3 == 0 ? x.pay(0, v) : i % 3 == 1 ? x.sword(1, v) : x.cover(0, 2, v);
    }

    private static int after(int i) {
        return i % 3 == 0 ? i + 1 : (i / 3 + 1) % 2;
    }

    private static int before(int i) {
        return i % 3 == 0 ? i < 3 ? 2400 : i - 2 : i / 3 % 2;
    }

    private static void mixedChanges() {
        says(32, "40 at most are kept: of unlike sorts, each with its own number");
        Hall x = Hall.with(3);
        x.feud(1, 0, 0);
        x.peace(4, 0, 10, 0);
        for (int i = 0; i < 44; i++) due(turn(x, i, after(i)), before(i));
        due(x.count(5), 40);
        for (int i = 43; i >= 4; i--) {
            due(x.undo(), i - 4);
            due(turn(x, i, before(i)), before(i));
        }
        due(x.undo(), STATE);
        says(33, "DONE AGAIN: 40 of unlike sorts");
        for (int i = 4; i < 44; i++) {
            due(x.redo(), 43 - i);
            due(turn(x, i, after(i)), after(i));
        }
        due(x.redo(), STATE);
    }

    private static void brokenInOrder() {
        says(32, "the latest first: of one strike what a later blow broke, then what an earlier one did");
        Hall x = Hall.with(3);
        x.sword(2, 1);
        x.kin(1, 2);
        x.peace(25, 0, 10, 0);
        x.peace(5, 0, 10, 0);
        due(x.strike(1, 7, 0, 1), 2);
        row(x, 1, 200);
        due(x.ofPeace(0, 0), BROKEN);
        due(x.ofPeace(1, 0), BROKEN);
        due(x.count(5), 3);
        due(x.undo(), 2);
        due(x.ofPeace(0, 0), 5);
        due(x.ofPeace(1, 0), BROKEN);
        due(x.undo(), 1);
        due(x.ofPeace(1, 0), 5);
    }

    public static void main(String[] args) {
        strikeArguments();
        thoughtAndDeed();
        broken();
        helps();
        inSteps();
        whoStruckByThen();
        blowAndAlive();
        worst();
        wedArguments();
        wedPairs();
        undoAndRedo();
        behindIt();
        fortyChanges();
        manyChanges();
        mixedChanges();
        brokenInOrder();
        end();
    }
}
