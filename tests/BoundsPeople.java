/** The boundary cases of section 1 and of promises 1 to 10: people, kin, feuds. */
public final class BoundsPeople extends Bounds {
    /** 32 people in a row, each the kin of the next one. */
    private static Hall longKin() {
        Hall x = Hall.with(32);
        for (int i = 0; i < 31; i++) x.kin(i, i + 1);
        return x;
    }

    private static void fill(Hall x, int peg, int... bytes) {
        x.row(peg, 0, bytes.length);
        for (int i = 0; i < bytes.length; i++) x.put(peg, i, bytes[i]);
    }

    private static void newObject() {
        says(1, "No people, no peaces");
        Hall x = new Hall();
        for (int what = 0; what <= 7; what++) due(x.count(what), 0);
        due(x.of(0, 1), BAD);
        due(x.ofPeace(0, 0), BAD);
        due(x.pay(0, 0), BAD);
        due(x.blow(0), BAD);
        due(x.alive(), -1);
        due(x.trace(0), BAD);
        due(x.undo(), STATE);
        due(x.redo(), STATE);
        for (int peg = 0; peg < 6; peg++) due(x.taken(peg, 0), NOTHING);
        says(1, "A new object: it has nothing of another one");
        Hall full = longKin();
        full.peace(0, 0, 0, 0);
        full.tape("12");
        Hall y = new Hall();
        for (int what = 0; what <= 7; what++) due(y.count(what), 0);
        due(y.person(-1, 1, 0), 0);
        due(y.peace(0, 0, 0, 0), 0);
    }

    private static void numbersOfPeople() {
        says(2, "PEOPLE 0 .. 31, as they come; FULL");
        Hall x = new Hall();
        for (int i = 0; i < 32; i++) due(x.person(-1, 1 + i, i % 2), i);
        due(x.person(-1, 1, 0), FULL);
        due(x.person(31, 99, 1), FULL);
        due(x.count(0), 32);
        due(x.of(31, 1), 32);
        due(x.of(32, 1), BAD);
        says(2, "Answers, of several the one named first: BAD, FULL");
        due(x.person(32, 1, 0), BAD);
        due(x.person(-2, 1, 0), BAD);
        due(x.person(-1, 0, 0), BAD);
        due(x.person(-1, 100, 0), BAD);
        due(x.person(-1, 1, 2), BAD);
        due(x.person(-1, 1, -1), BAD);
        due(x.count(0), 32);
    }

    private static void lords() {
        says(2, "a LORD (an earlier one, or none); lord -1: none");
        Hall x = new Hall();
        due(x.person(0, 1, 0), BAD);
        due(x.person(-2, 1, 0), BAD);
        due(x.person(MIN, 1, 0), BAD);
        due(x.person(MAX, 1, 0), BAD);
        due(x.count(0), 0);
        due(x.person(-1, 1, 0), 0);
        due(x.person(1, 1, 0), BAD);
        due(x.person(0, 1, 0), 1);
        due(x.person(2, 1, 0), BAD);
        due(x.person(3, 1, 0), BAD);
        due(x.person(1, 1, 0), 2);
        due(x.of(0, 0), -1);
        due(x.of(1, 0), 0);
        due(x.of(2, 0), 1);
        Hall y = Hall.with(31);
        due(y.person(31, 1, 0), BAD);
        due(y.person(30, 1, 0), 31);
        due(y.of(31, 0), 30);
    }

    private static void weightsAndSwords() {
        says(2, "a WEIGHT (1 .. 99)");
        Hall x = new Hall();
        for (int weight : new int[] {MIN, -1, 0, 100, 101, MAX}) due(x.person(-1, weight, 0), BAD);
        due(x.count(0), 0);
        due(x.person(-1, 1, 0), 0);
        due(x.person(-1, 99, 0), 1);
        due(x.of(0, 1), 1);
        due(x.of(1, 1), 99);
        says(2, "a SWORD (hung up 0, worn 1)");
        for (int sword : new int[] {MIN, -1, 2, MAX}) due(x.person(-1, 1, sword), BAD);
        due(x.count(0), 2);
        due(x.person(-1, 1, 0), 2);
        due(x.person(-1, 1, 1), 3);
        due(x.of(2, 2), 0);
        due(x.of(3, 2), 1);
    }

    private static void peopleArguments() {
        says(3, "on a PEG (PEGS 0 .. 5); BAD");
        Hall x = new Hall();
        for (int peg : new int[] {MIN, -1, 6, MAX}) due(x.people(peg, 0, 1), BAD);
        for (int peg = 0; peg < 6; peg += 5) {
            fill(x, peg, -1, 1, 0);
            due(x.people(peg, 0, 1), 1);
        }
        says(3, "n (1 .. 20) of them; BAD");
        for (int n : new int[] {MIN, -1, 0, 21, MAX}) due(x.people(0, 0, n), BAD);
        due(x.count(0), 2);
        due(x.people(0, 0, 1), 1);
        due(x.people(0, 0, 20), 1);
        due(x.count(0), 4);
        says(3, "-12 (no ROW of bytes)");
        for (int sort = 1; sort <= 4; sort++) {
            x.row(1, sort, 3);
            due(x.people(1, 0, 1), OTHER_KIND);
            x.row(1, sort, 0);
            due(x.people(1, 0, 1), OTHER_KIND);
        }
        x.peace(0, 0, 0, 0);
        x.keep(1, 0);
        due(x.people(1, 0, 1), OTHER_KIND);
        due(x.people(1, -1, 20), OTHER_KIND);
        says(3, "of several the one named first: BAD, -12");
        due(x.people(1, 0, 0), BAD);
        due(x.people(1, 0, 21), BAD);
        says(3, "a PEG that holds nothing is missing; it ends where the row is missing");
        due(x.people(2, 0, 1), 0);
        due(x.people(2, -1, 20), 0);
        x.keep(1, -1);
        due(x.people(1, 0, 1), 0);
        due(x.count(0), 4);
    }

    private static void peopleWhereTheRowEnds() {
        says(3, "it ends where the row .. ends (within a three, too)");
        for (int length = 0; length <= 7; length++) {
            Hall x = new Hall();
            x.row(0, 0, length);
            for (int i = 0; i < length; i++) x.put(0, i, i % 3 == 0 ? -1 : 1);
            due(x.people(0, 0, 20), length / 3);
            due(x.count(0), length / 3);
        }
        says(3, "from a place on");
        Hall x = new Hall();
        fill(x, 0, -1, 1, 1, -1, 2, 1, -1, 3, 1);
        for (int i : new int[] {MIN, MIN + 1, -3, -1, 9, 10, MAX - 60, MAX - 2, MAX - 1, MAX}) {
            due(x.people(0, i, 1), 0);
            due(x.people(0, i, 20), 0);
        }
        due(x.people(0, 7, 1), 0);
        due(x.people(0, 8, 1), 0);
        due(x.count(0), 0);
        due(x.people(0, 6, 2), 1);
        due(x.of(0, 1), 3);
        due(x.people(0, 3, 20), 2);
        due(x.of(1, 1), 2);
        due(x.of(2, 1), 3);
        due(x.people(0, 0, 2), 2);
        due(x.of(3, 1), 1);
        due(x.of(4, 1), 2);
        due(x.count(0), 5);
        says(3, "n (1 .. 20), a row of 60 elements");
        Hall y = new Hall();
        y.row(0, 0, 60);
        for (int i = 0; i < 20; i++) {
            y.put(0, 3 * i, i - 1);
            y.put(0, 3 * i + 1, i + 1);
        }
        due(y.people(0, 0, 19), 19);
        due(y.of(18, 0), 17);
        Hall z = new Hall();
        z.row(0, 0, 60);
        for (int i = 0; i < 60; i++) z.put(0, i, i % 3 == 0 ? -1 : 1);
        due(z.people(0, 0, 20), 20);
        due(z.people(0, 57, 20), 1);
        due(z.people(0, 58, 20), 0);
        due(z.count(0), 21);
    }

    private static void peopleNotSo() {
        says(3, "one is not so: those ahead came");
        int[][] notSo = {{-2, 1, 0}, {1, 1, 0}, {2, 1, 0}, {127, 1, 0}, {-128, 1, 0}, {-1, 0, 0}, {-1, -1, 0}, {-1, 100, 0}, {-1, 127, 0}, {-1, 1, 2}, {-1, 1, -1}};
        for (int[] three : notSo) {
            Hall x = new Hall();
            fill(x, 0, -1, 7, 1, three[0], three[1], three[2], -1, 8, 1);
            due(x.people(0, 0, 3), 1);
            due(x.count(0), 1);
            due(x.of(0, 1), 7);
            due(x.people(0, 6, 1), 1);
        }
        says(3, "LORD (-1: none), WEIGHT, SWORD: as of one who comes, those of the same row too");
        Hall x = new Hall();
        fill(x, 0, -1, 1, 0, 0, 99, 1, 1, 50, 0);
        due(x.people(0, 0, 3), 3);
        int[][] want = {{-1, 1, 0, 0}, {0, 99, 1, 0}, {1, 50, 0, 0}};
        for (int p = 0; p < 3; p++) for (int what = 0; what < 4; what++) due(x.of(p, what), want[p][what]);
        says(3, "what is put in keeps its lowest bits: of bytes");
        fill(x, 0, 255, 256 + 99, 256);
        due(x.people(0, 0, 1), 1);
        due(x.of(3, 0), -1);
        due(x.of(3, 1), 99);
        due(x.of(3, 2), 0);
    }

    private static void peopleWhenFull() {
        says(3, "or PEOPLE are FULL: those ahead came");
        Hall x = Hall.with(30);
        fill(x, 0, -1, 1, 0, -1, 2, 0, -1, 3, 0);
        due(x.people(0, 0, 3), 2);
        due(x.of(31, 1), 2);
        due(x.people(0, 0, 3), 0);
        due(x.people(0, 0, 1), 0);
        due(x.people(0, 0, 0), BAD);
        due(x.count(0), 32);
    }

    private static void ofOne() {
        says(4, "0 LORD (-1), 1 WEIGHT, 2 SWORD, 3 whether dead (1, 0). BAD");
        Hall x = new Hall();
        x.person(-1, 12, 1);
        x.person(0, 34, 0);
        int[][] want = {{-1, 12, 1, 0}, {0, 34, 0, 0}};
        for (int p = 0; p < 2; p++) for (int what = 0; what < 4; what++) due(x.of(p, what), want[p][what]);
        for (int what : new int[] {MIN, -1, 4, 5, MAX}) due(x.of(1, what), BAD);
        for (int p : new int[] {MIN, -1, 2, 31, 32, MAX}) for (int what = 0; what < 4; what++) due(x.of(p, what), BAD);
        x.strike(1, 3, 0, 1);
        int[][] then = {{-1, 12, 1, 0}, {0, 34, 0, 1}};
        for (int p = 0; p < 2; p++) for (int what = 0; what < 4; what++) due(x.of(p, what), then[p][what]);
        says(4, "PEOPLE 0 .. 31: the last one");
        Hall y = Hall.with(32);
        due(y.of(31, 1), 5);
        due(y.of(32, 1), BAD);
    }

    private static void sword() {
        says(5, "SWORD becomes v (0, 1): what it was. BAD");
        Hall x = Hall.with(2);
        for (int v : new int[] {MIN, -1, 2, MAX}) due(x.sword(1, v), BAD);
        for (int p : new int[] {MIN, -1, 2, 32, MAX}) due(x.sword(p, 1), BAD);
        due(x.of(0, 2), 0);
        due(x.of(1, 2), 0);
        due(x.count(5), 0);
        due(x.sword(1, 1), 0);
        due(x.of(0, 2), 0);
        due(x.of(1, 2), 1);
        due(x.sword(1, 0), 1);
        due(x.of(1, 2), 0);
        due(x.count(5), 2);
        says(5, "telling the same number is none (CHANGE)");
        due(x.sword(1, 0), 0);
        due(x.count(5), 2);
        x.undo();
        due(x.sword(1, 1), 1);
        due(x.redo(), 0);
        due(x.of(1, 2), 0);
    }

    private static void kin() {
        says(6, "KIN of two: how many there are. BAD (one and the same, told)");
        Hall x = Hall.with(4);
        due(x.kin(0, 0), BAD);
        due(x.kin(3, 3), BAD);
        for (int p : new int[] {MIN, -1, 4, 32, MAX}) {
            due(x.kin(0, p), BAD);
            due(x.kin(p, 0), BAD);
            due(x.kin(p, p), BAD);
        }
        due(x.count(1), 0);
        due(x.kin(0, 1), 1);
        due(x.kin(0, 1), BAD);
        due(x.kin(1, 0), BAD);
        due(x.count(1), 1);
        due(x.kin(2, 1), 2);
        due(x.kin(0, 2), 3);
        due(x.kin(0, 3), 4);
        due(x.count(1), 4);
        says(6, "KIN 0 .. 59; FULL");
        Hall y = longKin();
        due(y.count(1), 31);
        for (int i = 0; i < 29; i++) due(y.kin(i, i + 2), 32 + i);
        due(y.count(1), 60);
        due(y.steps(28, 30), 1);
        due(y.kin(29, 31), FULL);
        due(y.kin(0, 31), FULL);
        due(y.steps(29, 31), 2);
        due(y.count(1), 60);
        says(6, "of several the one named first: BAD, FULL");
        due(y.kin(0, 1), BAD);
        due(y.kin(30, 28), BAD);
        due(y.kin(5, 5), BAD);
        due(y.kin(0, 32), BAD);
        due(y.kin(-1, 0), BAD);
    }

    private static void steps() {
        says(7, "STEPS of two: the fewest KIN from one to the other (0: itself; at most 9 are looked at); NOT: more than 9, or none");
        Hall x = longKin();
        for (int p = 0; p < 32; p += 31) due(x.steps(p, p), 0);
        for (int n = 1; n <= 31; n++) {
            due(x.steps(0, n), n <= 9 ? n : NOT);
            due(x.steps(n, 0), n <= 9 ? n : NOT);
        }
        due(x.steps(31, 22), 9);
        due(x.steps(31, 21), NOT);
        x.kin(0, 31);
        due(x.steps(0, 31), 1);
        due(x.steps(0, 23), 9);
        due(x.steps(0, 22), NOT);
        due(x.steps(5, 27), NOT);
        due(x.steps(4, 27), 9);
        due(x.steps(11, 21), NOT);
        due(x.steps(11, 20), 9);
        says(7, "NOT: none");
        Hall y = Hall.with(3);
        due(y.steps(0, 1), NOT);
        y.kin(0, 1);
        due(y.steps(0, 1), 1);
        due(y.steps(0, 2), NOT);
        due(y.steps(2, 2), 0);
        says(7, "BAD");
        for (int p : new int[] {MIN, -1, 3, 32, MAX}) {
            due(y.steps(p, 0), BAD);
            due(y.steps(0, p), BAD);
            due(y.steps(p, p), BAD);
        }
        says(7, "STEPS: two KIN that come late join what was apart");
        Hall z = Hall.with(14);
        for (int i = 0; i < 13; i++) if (i != 5) z.kin(i, i + 1);
        due(z.steps(1, 10), NOT);
        z.kin(6, 5);
        due(z.steps(1, 10), 9);
        due(z.steps(0, 10), NOT);
    }

    private static void feudPairs() {
        says(8, "pq: 100 times the one killed and who killed. BAD (one and the same)");
        Hall x = Hall.with(3);
        for (int pq : new int[] {0, 101, 202, 303, 3, 300, 203 + 100, 99, 199, 32, 3200, 10001, MAX, -1, -100, -101, -2, MIN}) due(x.feud(pq, 0, 0), BAD);
        due(x.count(2), 0);
        due(x.feud(1, 0, 0), 0);
        due(x.feud(200, 0, 0), 1);
        due(x.feud(201, 0, 0), 2);
        Hall y = Hall.with(32);
        due(y.feud(3130, 0, 0), 0);
        due(y.feud(3031, 0, 0), 1);
        due(y.feud(3132, 0, 0), BAD);
        due(y.feud(3231, 0, 0), BAD);
        due(y.feud(3131, 0, 0), BAD);
        due(y.near(31, 30, 0, 0), 0);
        says(8, "HOURS 0 .. 2399");
        for (int hour : new int[] {MIN, -1, 2400, MAX}) due(x.feud(1, hour, 0), BAD);
        due(x.count(2), 3);
        due(x.feud(1, 2399, 0), 3);
        due(x.feud(1, 0, 0), 4);
        says(8, "from an HOUR on");
        Hall z = Hall.with(4);
        z.feud(1, 2399, 0);
        z.feud(102, 1, 0);
        z.feud(203, 0, 0);
        due(z.near(0, 1, 2398, 0), NOT);
        due(z.near(0, 1, 2399, 0), 0);
        due(z.near(1, 2, 0, 0), NOT);
        due(z.near(1, 2, 1, 0), 0);
        due(z.near(2, 3, 0, 0), 0);
    }

    private static void feudBindingAndPrice() {
        says(8, "BINDING so many STEPS (0 .. 3), a PRICE (0 .. 999); bp: 1000 BINDING and PRICE");
        Hall x = Hall.with(5);
        for (int bp : new int[] {MIN, -1000, -1, 4000, 4001, 10000, MAX}) due(x.feud(1, 0, bp), BAD);
        due(x.count(2), 0);
        int[] fine = {0, 999, 1000, 1999, 2000, 2999, 3000, 3999};
        for (int bp : fine) {
            // 1 and 2, 3, 4, 5 are one, two, three, four steps apart
            Hall y = Hall.with(6);
            for (int i = 1; i < 5; i++) y.kin(i, i + 1);
            due(y.feud(1, 0, bp), 0);
            for (int far = 0; far <= 4; far++) due(y.near(0, 1 + far, 0, 0), far <= bp / 1000 ? far : NOT);
            due(y.buy(3, 0, 0), bp % 1000);
        }
        says(8, "FEUDS 0 .. 39, as they come; FULL");
        for (int i = 0; i < 40; i++) due(x.feud(1, i, i), i);
        due(x.feud(1, 0, 0), FULL);
        due(x.feud(403, 0, 0), FULL);
        due(x.count(2), 40);
        due(x.near(3, 4, 0, 0), NOT);
        due(x.pay(39, 100), 2400);
        due(x.pay(40, 100), BAD);
        says(8, "of several the one named first: BAD, FULL");
        due(x.feud(0, 0, 0), BAD);
        due(x.feud(5, 0, 0), BAD);
        due(x.feud(1, 2400, 0), BAD);
        due(x.feud(1, 0, 4000), BAD);
        due(x.count(2), 40);
    }

    private static void pay() {
        says(9, "PAID of a FEUD becomes v (0 .. 2400): what it was. BAD");
        Hall x = Hall.with(2);
        due(x.pay(0, 5), BAD);
        x.feud(1, 0, 0);
        for (int v : new int[] {MIN, -1, 2401, MAX}) due(x.pay(0, v), BAD);
        for (int feud : new int[] {MIN, -1, 1, 39, 40, MAX}) due(x.pay(feud, 5), BAD);
        due(x.count(5), 0);
        due(x.near(0, 1, 2399, 0), 0);
        due(x.pay(0, 0), 2400);
        due(x.near(0, 1, 0, 0), NOT);
        due(x.pay(0, 1), 0);
        due(x.near(0, 1, 0, 0), 0);
        due(x.near(0, 1, 1, 0), NOT);
        due(x.pay(0, 2399), 1);
        due(x.near(0, 1, 2398, 0), 0);
        due(x.near(0, 1, 2399, 0), NOT);
        due(x.pay(0, 2400), 2399);
        due(x.near(0, 1, 2399, 0), 0);
        due(x.count(5), 4);
        says(9, "telling the same number is none (CHANGE)");
        due(x.pay(0, 2400), 2400);
        due(x.count(5), 4);
        says(9, "PAID ahead of the HOUR at which it began");
        x.feud(1, 10, 0);
        x.pay(0, 0);
        due(x.pay(1, 9), 2400);
        due(x.near(0, 1, 9, 0), NOT);
        due(x.near(0, 1, 10, 0), NOT);
        due(x.pay(1, 10), 9);
        due(x.near(0, 1, 10, 0), NOT);
        due(x.pay(1, 11), 10);
        due(x.near(0, 1, 10, 0), 0);
        due(x.near(0, 1, 11, 0), NOT);
    }

    private static void nearArguments() {
        says(10, "NEAR of two at an HOUR (what 0), the FEUD (1). BAD");
        Hall x = Hall.with(3);
        x.feud(1, 0, 0);
        for (int p : new int[] {MIN, -1, 3, 32, MAX}) {
            due(x.near(p, 0, 0, 0), BAD);
            due(x.near(0, p, 0, 0), BAD);
            due(x.near(p, p, 0, 0), BAD);
        }
        for (int hour : new int[] {MIN, -1, 2400, MAX}) due(x.near(0, 1, hour, 0), BAD);
        for (int what : new int[] {MIN, -1, 2, MAX}) due(x.near(0, 1, 0, what), BAD);
        due(x.near(0, 1, 0, 0), 0);
        due(x.near(0, 1, 2399, 1), 0);
        says(10, "NOT: they are not AT FEUD; (p is not q)");
        due(x.near(0, 2, 0, 0), NOT);
        due(x.near(0, 2, 0, 1), NOT);
        due(x.near(0, 0, 0, 0), NOT);
        due(x.near(2, 2, 0, 1), NOT);
        Hall y = Hall.with(3);
        y.kin(0, 1);
        y.kin(1, 2);
        y.feud(2, 0, 3000);
        due(y.near(1, 1, 0, 0), NOT);
        due(y.near(0, 1, 0, 0), 1);
        says(10, "of several the one named first: BAD, NOT");
        due(x.near(0, 0, 2400, 0), BAD);
        due(x.near(0, 2, -1, 0), BAD);
        due(x.near(0, 2, 0, 2), BAD);
    }

    private static void nearWithinBinding() {
        says(10, "p is within BINDING of the one, q of the other one, or the other way round");
        for (int binding = 0; binding <= 3; binding++) {
            // 0 .. 4 in a row, 5 .. 9 in a row: of 0 against 5
            Hall x = Hall.with(11);
            for (int i = 0; i < 9; i++) if (i != 4) x.kin(i, i + 1);
            x.feud(5, 0, 1000 * binding);
            for (int a = 0; a < 5; a++) {
                for (int b = 0; b < 5; b++) {
                    int want = a <= binding && b <= binding ? a + b : NOT;
                    due(x.near(a, 5 + b, 0, 0), want);
                    due(x.near(5 + b, a, 0, 0), want);
                }
            }
            for (int a = 1; a < 5; a++) due(x.near(0, a, 0, 0), NOT);
            due(x.near(0, 10, 0, 0), NOT);
        }
        says(10, "the fewest STEPS of both together: the way round that has them");
        Hall x = Hall.with(4);
        for (int i = 0; i < 3; i++) x.kin(i, i + 1);
        x.feud(102, 0, 3000);
        due(x.near(0, 3, 0, 0), 2);
        due(x.near(1, 2, 0, 0), 0);
        due(x.near(2, 1, 0, 0), 0);
        due(x.near(0, 1, 0, 0), 2);
        due(x.near(3, 2, 0, 0), 2);
    }

    private static void nearestFeud() {
        says(10, "the fewest STEPS of both together by any FEUD that makes them so; its number (of like ones the first)");
        Hall x = Hall.with(4);
        x.kin(0, 1);
        x.kin(2, 3);
        x.feud(2, 0, 1000);
        x.feud(301, 0, 1000);
        x.feud(103, 0, 0);
        x.feud(301, 5, 3000);
        due(x.near(1, 3, 0, 0), 0);
        due(x.near(1, 3, 0, 1), 1);
        due(x.near(0, 3, 0, 0), 1);
        due(x.near(0, 3, 0, 1), 0);
        due(x.near(0, 2, 0, 0), 0);
        due(x.near(0, 2, 0, 1), 0);
        x.pay(1, 3);
        due(x.near(1, 3, 2, 1), 1);
        due(x.near(1, 3, 3, 1), 2);
        x.pay(2, 4);
        due(x.near(1, 3, 4, 1), 0);
        due(x.near(1, 3, 4, 0), 2);
        due(x.near(1, 3, 5, 1), 3);
        due(x.near(1, 3, 5, 0), 0);
        says(10, "FEUDS 0 .. 39: the last one alone");
        Hall y = Hall.with(4);
        for (int i = 0; i < 39; i++) y.feud(1, 0, 0);
        y.feud(203, 0, 0);
        due(y.near(3, 2, 0, 1), 39);
        due(y.near(1, 0, 0, 1), 0);
        for (int i = 0; i < 38; i++) y.pay(i, 0);
        due(y.near(1, 0, 0, 1), 38);
        y.pay(38, 0);
        due(y.near(1, 0, 0, 1), NOT);
    }

    public static void main(String[] args) {
        newObject();
        numbersOfPeople();
        lords();
        weightsAndSwords();
        peopleArguments();
        peopleWhereTheRowEnds();
        peopleNotSo();
        peopleWhenFull();
        ofOne();
        sword();
        kin();
        steps();
        feudPairs();
        feudBindingAndPrice();
        pay();
        nearArguments();
        nearWithinBinding();
        nearestFeud();
        end();
    }
}
