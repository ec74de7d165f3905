/** The boundary cases of section 3 and of promises 17 to 19: the tape, customs, and what must gives. */
public final class BoundsCustoms extends Bounds {
    private static final int MUST = 0, HELPS = 1;

    private static String times(String part, int n) {
        StringBuilder text = new StringBuilder();
        for (int i = 0; i < n; i++) text.append(part);
        return text.toString();
    }

    private static void fine(String text) {
        Hall x = new Hall();
        due(x.tell(MUST, text), 1);
        due(x.count(4), 0);
    }

    private static void fault(String text, int place) {
        Hall x = new Hall();
        due(x.tell(MUST, text), -100 - place);
        due(x.count(4), 0);
        due(x.tell(HELPS, text), -100 - place);
    }

    /** What a text gives for two without kin, feud, peace or sword. */
    private static void gives(String text, int want) {
        Hall x = Hall.with(2);
        due(x.tell(MUST, text), 1);
        due(x.must(1, 3, 0), want);
    }

    private static void feed() {
        says(17, "n (1 .. 4) bytes come to THE TAPE: how many it has. BAD");
        Hall x = Hall.with(2);
        for (int n : new int[] {MIN, -1, 0, 5, MAX}) due(x.feed(n, '1'), BAD);
        due(x.count(4), 0);
        due(x.feed(1, '1'), 1);
        due(x.feed(4, 0), 5);
        due(x.count(4), 5);
        says(17, "the lowest of v first");
        String digits = "4321";
        int v = '4' | '3' << 8 | '2' << 16 | '1' << 24;
        for (int n = 1; n <= 4; n++) {
            Hall y = Hall.with(2);
            due(y.feed(n, v), n);
            due(y.custom(MUST), 1);
            due(y.must(1, 3, 0), Integer.parseInt(digits.substring(0, n)));
        }
        says(17, "at most 120 bytes; FULL");
        for (int last = 1; last <= 4; last++) {
            Hall y = Hall.with(2);
            for (int i = 0; i < 29; i++) y.feed(4, '0' | '+' << 8 | '0' << 16 | '+' << 24);
            if (last < 4) y.feed(4 - last, '0' | '+' << 8 | '0' << 16);
            // 120 less last are on the tape
            for (int n = last + 1; n <= 4; n++) due(y.feed(n, -1), FULL);
            due(y.count(4), 120 - last);
            due(y.feed(last, -1), 120);
            for (int n = 1; n <= 4; n++) due(y.feed(n, -1), FULL);
            due(y.count(4), 120);
            // of several the one named first: BAD, FULL
            due(y.feed(0, 0), BAD);
            due(y.feed(5, 0), BAD);
            due(y.count(4), 120);
            // the first byte that is none of a text is the first one of the last feed
            due(y.custom(MUST), -100 - (120 - last));
            due(y.feed(4, 0), 4);
        }
        says(17, "FULL: what is answered so changes nothing");
        Hall y = Hall.with(2);
        y.tape("1" + times("+1", 59));
        due(y.feed(2, '?'), FULL);
        due(y.custom(MUST), 1);
        due(y.must(1, 3, 0), 60);
    }

    private static void uses() {
        says(18, "a USE (0, 1); BAD (it stays)");
        Hall x = Hall.with(2);
        x.tape("7");
        for (int use : new int[] {MIN, -1, 2, MAX}) {
            due(x.custom(use), BAD);
            due(x.count(4), 1);
        }
        due(x.must(1, 3, 0), 0);
        due(x.custom(MUST), 1);
        due(x.must(1, 3, 0), 7);
        says(18, "THE TAPE is empty then");
        due(x.count(4), 0);
        due(x.custom(MUST), -100);
        x.tape("8z");
        due(x.custom(MUST), -101);
        due(x.count(4), 0);
        due(x.must(1, 3, 0), 7);
        x.tape("8");
        due(x.custom(HELPS), 1);
        due(x.must(1, 3, 0), 7);
        says(18, "a TEXT with a FAULT is none: the CUSTOM stays, of either USE");
        Hall y = Hall.with(4);
        y.sword(2, 1);
        y.kin(1, 2);
        due(y.strike(1, 15, 0, 0), 2);
        due(y.tell(HELPS, "0+"), -102);
        due(y.strike(1, 15, 0, 0), 2);
        due(y.tell(HELPS, "0"), 1);
        due(y.strike(1, 15, 0, 0), 1);
        due(y.tell(HELPS, "d<2&w&"), -106);
        due(y.strike(1, 15, 0, 0), 1);
    }

    private static void everyByte() {
        says(18, "FAULT: the place (from 0) of the first byte with which no TEXT goes on");
        String names = "fncwvlkod", digits = "0123456789", joins = "|&<=>+-*/%";
        for (int b = 0; b < 256; b++) {
            char c = (char) b;
            boolean operand = names.indexOf(c) >= 0 || digits.indexOf(c) >= 0, opens = "(!-".indexOf(c) >= 0, joins1 = joins.indexOf(c) >= 0;
            boolean parts = c == '?' || c == ';';
            for (String ahead : new String[] {"", "f;", "f?", "f+", "f?f;", "(", "!", "-", "(f&"}) {
                Hall x = new Hall();
                boolean closed = ahead.indexOf('(') < 0;
                int n = ahead.length();
                due(x.tell(MUST, ahead + c), operand && closed ? 1 : operand || opens ? -100 - n - 1 : -100 - n);
            }
            for (String ahead : new String[] {"f", "(f)", "9999", "!f", "f;f"}) {
                Hall x = new Hall();
                int n = ahead.length();
                due(x.tell(MUST, ahead + c), joins1 || parts ? -100 - n - 1 : -100 - n);
            }
            Hall x = new Hall();
            due(x.tell(MUST, "1" + c), digits.indexOf(c) >= 0 ? 1 : joins1 || parts ? -102 : -101);
            due(x.tell(MUST, "(f" + c), c == ')' ? 1 : joins1 ? -103 : -102);
            boolean compares = "<=>".indexOf(c) >= 0;
            for (String ahead : new String[] {"f<f", "f=f", "f>f"}) due(x.tell(MUST, ahead + c), (joins1 || parts) && !compares ? -104 : -103);
            due(x.tell(MUST, "f?f" + c), joins1 || c == ';' ? -104 : -103);
        }
    }

    private static void endsTooEarly() {
        says(18, "the length, if it ends too early");
        String[] early = {"", "f;", "f?", "f?f;", "f|", "f&", "f<", "f=", "f>", "f+", "f-", "f*", "f/", "f%", "!", "-", "(", "(f", "((f)", "f+(f", "(f+", "((((((f", "!!!!!!", "------", "((((((f)))))"};
        for (String text : early) fault(text, text.length());
        says(18, "LINES, one or more, parted by ;");
        for (String text : new String[] {"f", "f;f", "f?f", "f?f;f", "f;f?f", "0;0;0", times("f;", 59) + "f", times("f?f;", 29) + "f?f"}) fine(text);
        fault(";", 0);
        fault("f;;f", 2);
        fault(";f", 0);
        says(18, "LINE: E, or E ? E: not more than one ?");
        fault("f?f?f", 3);
        fault("f;f?f?f", 5);
        fault("?f", 0);
        fault("(f?f)", 2);
        fault("(f;f)", 2);
        says(18, "B = S, or S < S, S = S, S > S: not more than one of them");
        fault("f<f<f", 3);
        fault("f=f>f", 3);
        fault("f>f=f", 3);
        fine("(f<f)<f");
        fine("f<(f<f)");
        fine("f<f&f<f|f=f&f>f");
        fault("f<f&f<f<f", 7);
    }

    private static void longTexts() {
        says(18, "at most 120 bytes");
        Hall x = Hall.with(2);
        due(x.tell(MUST, "10" + times("+1", 59)), 1);
        due(x.must(1, 3, 0), 69);
        due(x.tell(MUST, times("0?1;", 29) + "1?77"), 1);
        due(x.must(1, 3, 0), 77);
        due(x.tell(MUST, times("0?1;", 29) + "0?77"), 1);
        due(x.must(1, 3, 0), 0);
        due(x.tell(MUST, "1" + times("+1", 59) + "+"), -220);
        due(x.tell(MUST, "1" + times("+1", 59) + "z"), -219);
        due(x.must(1, 3, 0), 0);
        due(x.tell(MUST, times("!0|!0&", 20)), -220);
        due(x.tell(MUST, times("!0|!0&", 19) + "!1*1+9"), 1);
        due(x.must(1, 3, 0), 1);
        says(18, "as much as one TEXT can leave open of |, &, <, + and * at once");
        String level = "0|1&0<1+1*";
        due(x.tell(MUST, times(level + "(", 6) + level + "1" + times(")", 6)), 1);
        due(x.must(1, 3, 0), 1);
        String other = "0|1&3>2+1*";
        due(x.tell(MUST, times(other + "(", 6) + other + "1" + times(")", 6)), 1);
        due(x.must(1, 3, 0), 0);
    }

    private static void numbers() {
        says(18, "a number (1 to 4 digits)");
        for (String text : new String[] {"0", "9", "00", "99", "000", "999", "0000", "9999", "1+9999", "(9999)", "9999?9999"}) fine(text);
        fault("00000", 4);
        fault("12345", 4);
        fault("99999", 4);
        fault("1+12345", 6);
        fault("(00000", 5);
        fault("123456789", 4);
        fault("9999f", 4);
        fault("1f", 1);
        fault("f1", 1);
        gives("0", 0);
        gives("0007", 7);
        gives("9999", 9999);
        gives("10", 10);
    }

    private static void openAtOnce() {
        says(18, "At most 6 of ( ! - ahead of an O are open at once");
        String signs = "(!-";
        for (int form = 0; form < 729; form++) {
            StringBuilder open = new StringBuilder(), close = new StringBuilder();
            for (int i = 0, rest = form; i < 6; i++, rest /= 3) {
                char sign = signs.charAt(rest % 3);
                open.append(sign);
                if (sign == '(') close.append(')');
            }
            Hall x = new Hall();
            due(x.tell(MUST, open + "f" + close), 1);
            for (int i = 0; i < 3; i++) due(x.tell(MUST, open.toString() + signs.charAt(i) + "f"), -106);
        }
        says(18, "open at once: what has been closed is open no more");
        fine("((((((f))))))+((((((f))))))");
        fine("((((((f))))))?((((((f))))));((((((f))))))");
        fine("((((((f)+(f))+(f))+(f))+(f))+(f))");
        fine("!!!!!!f*------f");
        fine("(!!!!!f+!!!!!f)");
        fine("!(!(!(f)&!f)|-f)");
        fault("(!!!!!f+!!!!!!f", 13);
        fault("((((((f)+((f", 10);
        fault("(((((f)+(((f", 10);
        fault("f?(((((((f", 8);
        fault("f;!!!!!!!f", 8);
        says(18, "S = P { + P, - P }: a - between two is not ahead of an O");
        fine("f-f-f-f-f-f-f-f-f-f");
        fine("f-------f");
        fault("f--------f", 8);
        fine("((((((f-f-f))))))");
        fault("((((((f--f))))))", 8);
    }

    private static void working() {
        says(19, "Ints that wrap");
        gives("9999*9999*9999", 9999 * 9999 * 9999);
        gives("2048*1024*1024", MIN);
        gives("2048*1024*1024-1", MAX);
        gives("2048*1024*1024-1+1", MIN);
        gives("-(2048*1024*1024)", MIN);
        gives("2048*1024*1024/-1", MIN);
        gives("2048*1024*1024%-1", 0);
        gives("2048*1024*2048", 0);
        gives("2048*1024*1024<0", 1);
        gives("-(2048*1024*1024)-1>0", 1);
        says(19, "/ and % toward 0, by 0 they give 0");
        int[] values = {7, -7, 1, -1, 0};
        for (int a : values) {
            for (int b : new int[] {2, -2, 3, 7, 8, -8, 1, -1, 0}) {
                gives(a + "/" + b, b == 0 ? 0 : a / b);
                gives(a + "%" + b, b == 0 ? 0 : a % b);
            }
        }
        gives("5/0+3", 3);
        gives("9/(1-1)*5", 0);
        gives("2048*1024*1024/0", 0);
        says(19, "| & < = > ! give 1, 0");
        for (int a : new int[] {0, 1, 5, -3}) {
            for (int b : new int[] {0, 1, 5, -3}) {
                gives(a + "|" + b, a != 0 || b != 0 ? 1 : 0);
                gives(a + "&" + b, a != 0 && b != 0 ? 1 : 0);
                gives(a + "<" + b, a < b ? 1 : 0);
                gives(a + "=" + b, a == b ? 1 : 0);
                gives(a + ">" + b, a > b ? 1 : 0);
            }
            gives("!" + a, a == 0 ? 1 : 0);
            gives("--" + Math.abs(a), Math.abs(a));
        }
        says(19, "E, A, B, S, P, O: what binds closer");
        gives("1|1&0", 1);
        gives("0&0|1", 1);
        gives("2&1<2", 1);
        gives("3-1=2", 1);
        gives("8-2*3", 2);
        gives("7-4-2", 1);
        gives("48/4/3", 4);
        gives("17%10*2", 14);
        gives("2*17%10", 4);
        gives("!0+1", 2);
        gives("-2*3", -6);
        gives("!(0+1)", 0);
        gives("5-3+1", 3);
    }

    private static void lines() {
        says(19, "The first LINE without a first E, or whose first E is not 0, counts; none: 0");
        gives("0?5", 0);
        gives("0?5;0?6", 0);
        gives("0?5;0?6;7", 7);
        gives("7;8", 7);
        gives("0;8", 0);
        gives("1?0;6", 0);
        gives("-1?5;6", 5);
        gives("0?5;2?6;7", 6);
        gives("9?-4", -4);
        says(19, "What MUST gives: any int");
        gives("0-9999*9999", -99980001);
        gives("9999*9999", 99980001);
        gives("-2000*1000*1000", VOID);
        says(19, "Without a TEXT: MUST f&!c");
        Hall x = Hall.with(3);
        x.feud(1, 10, 0);
        x.peace(4, 3, 200020, 0);
        int[] hours = {9, 10, 19, 20, 21};
        int[] want = {0, 1, 1, 0, 1};
        for (int i = 0; i < hours.length; i++) {
            due(x.must(1, 7, hours[i]), want[i]);
            due(x.must(100, 7, hours[i]), want[i]);
            due(x.must(2, 7, hours[i]), 0);
        }
        says(19, "all is worked out: what does not count may hold anything");
        gives("1?2;1/0", 2);
        gives("0?1/0;3", 3);
        gives("1|1/0", 1);
    }

    private static void nearAndSteps() {
        says(19, "f whether they are AT FEUD, n NEAR (9 if not)");
        Hall x = Hall.with(9);
        for (int i = 0; i < 8; i++) if (i != 3) x.kin(i, i + 1);
        x.feud(4, 0, 3000);
        x.tell(MUST, "f*10+n");
        for (int a = 0; a <= 3; a++) for (int b = 4; b <= 8; b++) due(x.must(100 * a + b, 511, 0), b == 8 ? 9 : 10 + a + b - 4);
        due(x.must(1, 511, 0), 9);
        says(19, "k STEPS of the two (9 if more, or none)");
        Hall y = Hall.with(13);
        for (int i = 0; i < 11; i++) y.kin(i, i + 1);
        y.tell(MUST, "k");
        for (int b = 1; b <= 11; b++) {
            due(y.must(b, 8191, 0), Math.min(b, 9));
            due(y.must(100 * b, 8191, 0), Math.min(b, 9));
        }
        due(y.must(12, 8191, 0), 9);
        says(19, "c how many PEACES HOLD between them");
        Hall z = Hall.with(3);
        z.tell(MUST, "c");
        due(z.must(1, 7, 0), 0);
        for (int i = 1; i <= 60; i++) {
            z.peace(4, 3, 10000 + i, 0);
            due(z.must(1, 7, 1), i);
        }
        due(z.must(1, 7, 60), 1);
        due(z.must(1, 7, 61), 0);
        due(z.must(2, 7, 1), 0);
    }

    private static void swordsAndLords() {
        says(19, "w whether the first one wears a SWORD, v whether the other one does");
        Hall x = Hall.with(2);
        x.tell(MUST, "w*2+v");
        due(x.must(1, 3, 0), 0);
        x.sword(0, 1);
        due(x.must(1, 3, 0), 2);
        due(x.must(100, 3, 0), 1);
        x.sword(1, 1);
        due(x.must(1, 3, 0), 3);
        says(19, "l whether the other one is the LORD of the first (along LORDS, too)");
        Hall y = new Hall();
        for (int i = 0; i < 31; i++) y.person(i - 1, 5, 0);
        y.person(-1, 5, 0);
        y.tell(MUST, "l");
        for (int p = 1; p < 31; p++) {
            due(y.must(100 * p, 0xffffffffL, 0), 1);
            due(y.must(p, 0xffffffffL, 0), 0);
            due(y.must(100 * p + p - 1, 0xffffffffL, 0), 1);
        }
        due(y.must(3100, 0xffffffffL, 0), 0);
        due(y.must(31, 0xffffffffL, 0), 0);
        says(19, "o how many of those there have one LORD with the first (it, too)");
        Hall z = new Hall();
        z.person(-1, 5, 0);
        z.person(-1, 5, 0);
        for (int i = 2; i < 32; i++) z.person(i < 31 ? 0 : 1, 5, 0);
        z.tell(MUST, "o");
        due(z.must(203, 0b1100, 0), 2);
        due(z.must(200, 0b101, 0), 1);
        due(z.must(203, 0b11100, 0), 3);
        due(z.must(200, 0xffffffffL, 0), 29);
        due(z.must(3002, 0xffffffffL, 0), 29);
        due(z.must(3100, 0xffffffffL, 0), 1);
        due(z.must(3130, 0xfffffffcL, 0), 1);
        due(z.must(3130, 0xffffffffL, 0), 1);
        says(19, "o of one without a LORD, which is an earlier one: none has one LORD with it, it is counted itself");
        for (int pq : new int[] {1, 100, 2, 102, 31, 131}) due(z.must(pq, 0xffffffffL, 0), 1);
        due(z.must(1, 3, 0), 1);
        due(z.must(100, 3, 0), 1);
        due(z.must(201, 0b111, 0), 1);
        due(z.must(201, 0b1111, 0), 2);
        Hall free = Hall.with(32);
        free.tell(MUST, "o");
        for (int p = 1; p < 32; p++) {
            due(free.must(p, 0xffffffffL, 0), 1);
            due(free.must(100 * p, 1L << p | 1, 0), 1);
        }
    }

    private static void namesOfUses() {
        says(19, "A NAME that is not of the USE is 0: d of MUST");
        Hall x = Hall.with(3);
        x.kin(0, 1);
        x.tell(MUST, "d");
        due(x.must(1, 7, 0), 0);
        due(x.must(2, 7, 0), 0);
        x.tell(MUST, "d=0&1000");
        due(x.must(1, 7, 0), 1);
        says(27, "Without a TEXT: HELPS d<2&w");
        for (int far = 1; far <= 3; far++) {
            for (int sword = 0; sword <= 1; sword++) {
                // 0 strikes 1, with 2, 3 or 4 one, two or three steps off
                Hall y = Hall.with(5);
                for (int i = 1; i < 4; i++) y.kin(i, i + 1);
                y.sword(1 + far, sword);
                due(y.strike(1, 3 | 1 << 1 + far, 0, 0), far < 2 && sword == 1 ? 2 : 1);
            }
        }
        says(27, "of HELPS the two are r and who struck, and d STEPS of r and who was struck");
        Hall z = Hall.with(13);
        for (int i = 1; i < 12; i++) z.kin(i, i + 1);
        for (int far = 1; far <= 10; far++) {
            z.tell(HELPS, "d=" + Math.min(far, 9) + "&k=9");
            due(z.strike(1, 3 | 1 << 1 + far, 0, 0), 2);
            due(z.blow(1), 100 * (1 + far));
        }
        z.tell(HELPS, "d<9");
        due(z.strike(1, 3 | 1 << 11, 0, 0), 1);
        due(z.strike(1, 3 | 1 << 10, 0, 0), 1);
        due(z.strike(1, 3 | 1 << 9, 0, 0), 2);
    }

    /** 0 strikes 1, and 2 is there: whether it helps. */
    private static void helps(Hall x, String text, boolean want) {
        x.tell(MUST, "0");
        due(x.tell(HELPS, text), 1);
        due(x.strike(1, 7, 10, 0), want ? 2 : 1);
        if (want) due(x.blow(1), 200);
    }

    private static void namesOfHelps() {
        says(27, "of HELPS the two are r and who struck: f, n");
        Hall x = Hall.with(3);
        x.feud(201, 0, 0);
        helps(x, "f", false);
        helps(x, "n<9", false);
        x.feud(200, 10, 0);
        helps(x, "f", true);
        helps(x, "n=0", true);
        x.pay(1, 10);
        helps(x, "f", false);
        helps(x, "n=9", true);
        says(27, "of HELPS: c, of PEACES that are not BROKEN by the blow");
        helps(x, "c", false);
        x.peace(4, 5, 100010, 0);
        helps(x, "c=1", true);
        x.peace(4, 7, 100010, 0);
        helps(x, "c=1", true);
        x.peace(15, 0, 100010, 0);
        helps(x, "c=2", true);
        says(27, "of HELPS: w, v");
        helps(x, "w", false);
        helps(x, "v", false);
        x.sword(1, 1);
        helps(x, "w|v", false);
        x.sword(2, 1);
        helps(x, "w&!v", true);
        x.sword(0, 1);
        x.sword(2, 0);
        helps(x, "v&!w", true);
        says(27, "of HELPS: k, d");
        helps(x, "k=9&d=9", true);
        x.kin(0, 2);
        helps(x, "k=1&d=9", true);
        x.kin(0, 1);
        helps(x, "k=1&d=2", true);
        helps(x, "d<2", false);
        says(27, "of HELPS: o, of those alive there");
        helps(x, "o=1", true);
        helps(x, "o>1", false);
        Hall one = Hall.underOneLord(4);
        one.tell(MUST, "0");
        String[] texts = {"o>3", "o=3", "o>2", "o=2"};
        for (int i = 0; i < texts.length; i++) {
            one.tell(HELPS, texts[i]);
            due(one.strike(102, 0b11110, 10, 0), i == 0 || i == 3 ? 1 : 2);
            due(one.blow(1), i == 0 || i == 3 ? -1 : 301);
        }
        one.tell(HELPS, "o=1");
        due(one.strike(102, 0b11111, 10, 0), 2);
        due(one.blow(1), 1);
        says(27, "of HELPS: l, whether who struck is the LORD of r");
        helps(x, "l", false);
        Hall y = new Hall();
        y.person(-1, 5, 0);
        y.person(-1, 5, 0);
        y.person(0, 5, 0);
        helps(y, "l", true);
        helps(y, "o=1", true);
        Hall z = new Hall();
        for (int i = 0; i < 3; i++) z.person(i == 2 ? 1 : -1, 5, 0);
        helps(z, "l", false);
    }

    private static void mustArguments() {
        says(19, "VOID: BAD (one and the same, dead, not THERE)");
        Hall x = Hall.with(4);
        x.tell(MUST, "1");
        for (int pq : new int[] {0, 101, 303, 4, 400, 404, 99, 10001, MAX, -1, -100, -101, MIN}) due(x.must(pq, 15, 0), VOID);
        for (int hour : new int[] {MIN, -1, 2400, MAX}) due(x.must(1, 15, hour), VOID);
        due(x.must(1, 15, 0), 1);
        due(x.must(302, 15, 2399), 1);
        says(19, "not THERE");
        due(x.must(1, 0, 0), VOID);
        due(x.must(1, 1, 0), VOID);
        due(x.must(1, 2, 0), VOID);
        due(x.must(1, 12, 0), VOID);
        due(x.must(1, 3, 0), 1);
        due(x.must(302, 12, 0), 1);
        says(19, "THERE: a set of PEOPLE (bits): no such number");
        for (long there : new long[] {31, 16 | 3, 1L << 31 | 3, 1L << 32 | 3, 1L << 63 | 3, -1, Long.MIN_VALUE, Long.MAX_VALUE}) due(x.must(1, there, 0), VOID);
        says(19, "dead");
        x.tell(MUST, "0");
        x.tell(HELPS, "0");
        x.strike(3, 9, 0, 1);
        due(x.must(3, 15, 0), VOID);
        due(x.must(300, 15, 0), VOID);
        due(x.must(1, 15, 0), 0);
        says(19, "o: the dead are no more THERE");
        Hall y = Hall.underOneLord(31);
        y.tell(MUST, "o");
        due(y.must(3130, 0xffffffffL, 0), 31);
        due(y.must(3130, 0xc0000000L, 0), 2);
        y.tell(MUST, "0");
        y.tell(HELPS, "0");
        y.strike(3029, 3L << 29, 0, 1);
        y.tell(MUST, "o");
        due(y.must(3130, 0xffffffffL, 0), 30);
        due(y.must(3130, 0xe0000000L, 0), 2);
        due(y.must(3130, 0x1ffffffffL, 0), VOID);
    }

    public static void main(String[] args) {
        feed();
        uses();
        everyByte();
        endsTooEarly();
        longTexts();
        numbers();
        openAtOnce();
        working();
        lines();
        nearAndSteps();
        swordsAndLords();
        namesOfUses();
        namesOfHelps();
        mustArguments();
        end();
    }
}
