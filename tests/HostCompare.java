import java.util.ArrayList;
import java.util.List;
import java.util.Random;

/**
 * Section 6 against the host itself: the kinds of peaces are classes of Java with the bodies that the document lists,
 * rows are arrays of Java, and a refusal is what the host throws there. Runs of calls with fixed seeds.
 */
public final class HostCompare extends Bounds {
    private static final int ROUNDS = 60;

    // ---- the bodies of acts, as the document lists them

    private static final List<Integer> RAN = new ArrayList<>();

    private interface Holds {
        int n();

        default int holds(int x) { RAN.add(1); return x + n(); }
    }

    private interface Tells {
        int covers(int x);

        int ends(int x);

        default int tells(int x) { RAN.add(2); return covers(x) - ends(1); }
    }

    private static class Peace implements Holds, Tells {
        final int n;

        Peace(int n) { this.n = n; }

        public int n() { return n; }

        public int covers(int x) { RAN.add(10); return holds(x) * 2; }

        public int ends(int x) { RAN.add(11); return x ^ n; }
    }

    private static class Hearth extends Peace {
        Hearth(int n) { super(n); }

        public int holds(int x) { RAN.add(20); return super.holds(x) + 3; }
    }

    private static class Salt extends Hearth {
        Salt(int n) { super(n); }

        public int ends(int x) { RAN.add(30); return super.ends(x) * 3; }

        public int holds(int x) { RAN.add(31); return super.holds(x + 1); }
    }

    private static class Road extends Peace {
        Road(int n) { super(n); }

        public int covers(int x) { RAN.add(40); return -super.covers(x); }
    }

    private static class Bought extends Peace {
        Bought(int n) { super(n); }

        public int tells(int x) { RAN.add(50); return super.tells(x) ^ 5; }
    }

    private static class King extends Bought {
        King(int n) { super(n); }

        public int holds(int x) { RAN.add(60); return super.holds(x) - ends(2); }
    }

    private static class Broken extends Peace {
        Broken(int n) { super(n); }

        public int ends(int x) { RAN.add(70); return super.ends(x) + holds(1); }

        public int covers(int x) { RAN.add(71); return super.covers(x) * 2; }
    }

    private static final Class<?>[] KINDS = {Peace.class, Hearth.class, Salt.class, Road.class, Bought.class, King.class, Broken.class};

    private static Peace made(int kind, int n) {
        switch (kind) {
            case 0: return new Peace(n);
            case 1: return new Hearth(n);
            case 2: return new Salt(n);
            case 3: return new Road(n);
            case 4: return new Bought(n);
            case 5: return new King(n);
            default: return new Broken(n);
        }
    }

    // ---- rows of the host

    private static Object row(int sort, int n) {
        switch (sort) {
            case 0: return new byte[n];
            case 1: return new short[n];
            case 2: return new int[n];
            case 3: return new long[n];
            default: return new boolean[n];
        }
    }

    private static void store(Object row, int i, long v) {
        if (row == null) throw new NullPointerException();
        if (row instanceof byte[] r) r[i] = (byte) v;
        else if (row instanceof short[] r) r[i] = (short) v;
        else if (row instanceof int[] r) r[i] = (int) v;
        else if (row instanceof long[] r) r[i] = v;
        else ((boolean[]) row)[i] = v != 0;
    }

    private static long load(Object row, int i) {
        if (row == null) throw new NullPointerException();
        if (row instanceof byte[] r) return r[i];
        if (row instanceof short[] r) return r[i];
        if (row instanceof int[] r) return r[i];
        if (row instanceof long[] r) return r[i];
        return ((boolean[]) row)[i] ? 1 : 0;
    }

    private interface Answer {
        long told();
    }

    /** What is told, or the number of what the host throws instead. */
    private static long refused(Answer answer) {
        try {
            return answer.told();
        } catch (NullPointerException e) {
            return -11;
        } catch (ArrayStoreException | ClassCastException e) {
            return -12;
        } catch (IndexOutOfBoundsException e) {
            return -13;
        } catch (NegativeArraySizeException e) {
            return -14;
        }
    }

    // ---- one run

    private static Random dice;
    private static Hall roof;
    private static Object[] pegs;
    /** Of each peg that holds a peace its number, since the peace's kind is asked when it is looked at. */
    private static int[] kept;
    /** How many people came ahead of the one at whom the host threw. */
    private static final int[] HOW_MANY = {0};

    private static int any(int below) { return dice.nextInt(below); }

    private static int peg() { return any(25) == 0 ? any(12) - 3 : any(6); }

    private static int place() { return any(12) == 0 ? dice.nextInt() : any(10) - 1; }

    private static boolean isPeg(int peg) { return peg >= 0 && peg < 6; }

    private static Object on(int peg) {
        return kept[peg] < 0 ? pegs[peg] : made(roof.ofPeace(kept[peg], 0), kept[peg]);
    }

    private static void hang(int peg, Object what, int peace) {
        pegs[peg] = what;
        kept[peg] = peace;
    }

    private static void rows() {
        int peg = peg(), sort = any(20) == 0 ? any(9) - 2 : any(5), n = any(10) == 0 ? any(130) - 65 : any(10);
        boolean bad = !isPeg(peg) || sort < 0 || sort > 4 || n > 60;
        long want = bad ? BAD : refused(() -> {
            hang(peg, row(sort, n), -1);
            return 1;
        });
        due(roof.row(peg, sort, n), want);
    }

    private static void puts() {
        int peg = peg(), i = place();
        long v = any(2) == 0 ? dice.nextLong() : any(7) - 2;
        long want = !isPeg(peg) ? BAD : refused(() -> {
            store(on(peg), i, v);
            return 1;
        });
        due(roof.put(peg, i, v), want);
    }

    private static void elements(int peg, int i) {
        boolean[] told = {false};
        long element = !isPeg(peg) ? BAD : refused(() -> {
            long is = load(on(peg), i);
            told[0] = true;
            return is;
        });
        due(roof.element(peg, i), told[0] ? element : Long.MIN_VALUE);
    }

    private static void shifts() {
        int peg = peg(), other = any(3) == 0 ? peg : peg(), i = place(), j = place(), n = any(9) - 1;
        long want = !isPeg(peg) || !isPeg(other) ? BAD : refused(() -> {
            System.arraycopy(on(peg), i, on(other), j, n);
            return n;
        });
        due(roof.shift(peg, i, other, j, n), want);
    }

    private static void keeps(int peaces) {
        int peg = peg(), peace = any(8) == 0 ? any(70) - 4 : any(Math.max(1, peaces) + 1) - 1;
        boolean bad = !isPeg(peg) || peace < -1 || peace >= peaces;
        if (!bad) hang(peg, null, peace);
        due(roof.keep(peg, peace), bad ? BAD : 1);
    }

    private static void takes() {
        int peg = peg(), k = any(20) == 0 ? any(12) - 3 : any(7);
        long want = !isPeg(peg) || k < 0 || k > 6 ? BAD : refused(() -> kindOf(KINDS[k].cast(on(peg))));
        due(roof.taken(peg, k), want);
    }

    private static int kindOf(Object peace) {
        for (int kind = 0; kind < KINDS.length; kind++) if (peace.getClass() == KINDS[kind]) return kind;
        return -1;
    }

    private static void acts(int peaces) {
        int n = any(20) == 0 ? any(80) - 10 : any(Math.max(1, peaces)), act = any(20) == 0 ? any(9) - 2 : any(4);
        int x = any(2) == 0 ? dice.nextInt() : any(9) - 3;
        RAN.clear();
        int want = 0;
        if (n >= 0 && n < peaces && act >= 0 && act <= 3) {
            Peace peace = made(roof.ofPeace(n, 0), n);
            want = act == 0 ? peace.holds(x) : act == 1 ? peace.covers(x) : act == 2 ? peace.ends(x) : peace.tells(x);
        }
        due(roof.act(n, act, x), want);
        due(roof.count(7), RAN.size());
        for (int i = -1; i <= RAN.size(); i++) due(roof.trace(i), i < 0 || i >= RAN.size() || i >= 24 ? BAD : RAN.get(i));
    }

    private static boolean isPerson(int lord, int weight, int sword, int people) {
        return lord >= -1 && lord < people && weight >= 1 && weight <= 99 && (sword == 0 || sword == 1);
    }

    /** Fills a row of bytes with people, most of whom are so. */
    private static void writePeople(int peg, byte[] bytes, int people) {
        for (int at = 0; at < bytes.length; at++) {
            int v = at % 3 == 0 ? any(people + 3) - 1 : at % 3 == 1 ? any(12) == 0 ? 100 : 1 + any(99) : any(14) == 0 ? 2 : any(2);
            bytes[at] = (byte) v;
            due(roof.put(peg, at, v), 1);
        }
    }

    private static int howManyCome(byte[] bytes, int i, int n, int people) {
        for (int came = 0; came < n; came++) {
            int at = i + 3 * came;
            if (people + came >= 32 || !isPerson(bytes[at], bytes[at + 1], bytes[at + 2], people + came)) return came;
            HOW_MANY[0] = came + 1;
        }
        return n;
    }

    private static void peopleFromRow() {
        int peg = peg(), i = any(3) == 0 ? place() : 0, n = any(15) == 0 ? any(60) - 20 : 1 + any(4), people = roof.count(0);
        if (isPeg(peg) && pegs[peg] instanceof byte[] bytes && any(3) > 0) writePeople(peg, bytes, people);
        HOW_MANY[0] = 0;
        long want = BAD;
        if (isPeg(peg) && n >= 1 && n <= 20) {
            want = refused(() -> howManyCome((byte[]) on(peg), i, n, people));
            // where the row is missing or ends, those ahead came
            if (want == NOTHING || want == NO_PLACE) want = HOW_MANY[0];
        }
        due(roof.people(peg, i, n), want);
        due(roof.count(0), people + Math.max(0, want));
        for (int p = 0; p < want; p++) {
            for (int what = 0; what < 3; what++) due(roof.of(people + p, what), ((byte[]) pegs[peg])[i + 3 * p + what]);
        }
    }

    /** Peaces come, are broken, and are whole again. */
    private static void peaces() {
        int kind = any(6), people = roof.count(0);
        if (people < 2) {
            roof.person(-1, 1, 0);
            return;
        }
        switch (any(6)) {
            case 0: roof.strike(any(people) * 100 + any(people), (1L << people) - 1, 5, any(2)); break;
            case 1: roof.undo(); break;
            case 2: roof.redo(); break;
            default: roof.peace(10 * any(people) + kind, dice.nextLong() & (1L << people) - 1, 9, 0);
        }
    }

    private static void round() {
        int peaces = roof.count(3);
        switch (any(10)) {
            case 0: rows(); break;
            case 1: puts(); break;
            case 2: elements(peg(), place()); break;
            case 3: case 4: shifts(); break;
            case 5: keeps(peaces); break;
            case 6: takes(); break;
            case 7: acts(peaces); break;
            case 8: if (any(3) == 0) peopleFromRow(); else puts(); break;
            default: peaces();
        }
    }

    private static void run(int seed) {
        says(34, "section 6 as the host has it, run " + seed);
        dice = new Random(seed);
        roof = new Hall();
        pegs = new Object[6];
        kept = new int[] {-1, -1, -1, -1, -1, -1};
        for (int i = 0; i < ROUNDS; i++) round();
        for (int peg = 0; peg < 6; peg++) for (int i = -1; i < 8; i++) elements(peg, i);
    }

    public static void main(String[] args) {
        int runs = args.length > 0 ? Integer.parseInt(args[0]) : 3000;
        for (int seed = 1; seed <= runs; seed++) run(seed);
        end();
    }
}
