import java.util.ArrayList;
import java.util.List;

/**
 * Two halls made alike. A call that is refused by one of them must leave it like the other one: then all calls that
 * tell something give the same, and so do those that go on from there.
 */
public final class Twins {
    /** One call of a hall. */
    public interface Call {
        long to(Hall hall);
    }

    private static final List<String> ASKED = new ArrayList<>();

    private Twins() {
    }

    /** A hall in which there is something of everything, and room for more. */
    public static Hall busy() {
        Hall x = new Hall();
        int[][] people = {{-1, 9, 1}, {0, 5, 0}, {0, 4, 1}, {-1, 8, 1}, {3, 6, 0}, {3, 3, 1}, {-1, 7, 0}};
        for (int[] p : people) x.person(p[0], p[1], p[2]);
        x.kin(1, 2);
        x.kin(3, 4);
        x.kin(4, 5);
        x.feud(104, 10, 1050);
        x.feud(205, 0, 30);
        x.feud(603, 20, 2099);
        x.peace(1, 62, 100040, 0);
        x.peace(32, 48, 200060, 24);
        x.peace(3, 64, 40, 0);
        x.peace(4, 34, 300099, 0);
        x.peace(5, 0, 900099, 0);
        x.peace(0, 0, 2399, 0);
        x.road(1, 1);
        x.road(4, 1);
        x.road(5, 3);
        x.pay(1, 50);
        x.sword(1, 1);
        x.cover(0, 6, 1);
        x.strike(600, 65, 5, 1);
        x.undo();
        x.tell(0, "f&!c|n=9&l&v");
        x.tell(1, "d<3&w");
        x.tape("f&");
        x.strike(104, 126, 60, 0);
        int[] bytes = {-1, 7, 1, 0, 99, 0, 1};
        x.row(0, 0, bytes.length);
        for (int i = 0; i < bytes.length; i++) x.put(0, i, bytes[i]);
        x.row(1, 3, 4);
        x.put(1, 3, Long.MAX_VALUE);
        x.row(2, 4, 2);
        x.put(2, 0, 1);
        x.keep(3, 1);
        x.row(5, 2, 0);
        x.act(1, 3, 7);
        return x;
    }

    /** A hall in which nothing more has room. */
    public static Hall full() {
        Hall x = new Hall();
        for (int i = 0; i < 32; i++) x.person(i % 4 == 0 ? -1 : i - 1, 1 + i, i % 2);
        for (int i = 0; i < 31; i++) x.kin(i, i + 1);
        for (int i = 0; i < 29; i++) x.kin(i, i + 2);
        for (int i = 0; i < 40; i++) x.feud(100 * (i % 31) + 31, i, 1000 * (i % 4) + i);
        for (int i = 0; i < 60; i++) x.peace(10 * (i % 32) + i % 6, 7L << i % 30, 10000 * i + 2 * i, i);
        for (int i = 0; i < 30; i++) x.feed(4, '1' | '+' << 8 | '1' << 16 | '+' << 24);
        for (int i = 0; i < 40; i++) x.pay(i, 100 + i);
        return x;
    }

    /** The call must be answered so, and change nothing of a busy hall. */
    public static void refused(long want, Call call) {
        Hall one = busy(), other = busy();
        Bounds.due(call.to(one), want);
        String text = Hall.latest();
        compare(text, askBusy(one), askBusy(other));
    }

    /** The call must be answered so, and change nothing of a full hall. */
    public static void refusedWhenFull(long want, Call call) {
        Hall one = full(), other = full();
        Bounds.due(call.to(one), want);
        String text = Hall.latest();
        compare(text, askFull(one), askFull(other));
    }

    /** The call must change nothing, whatever it answers. */
    public static void quiet(Call call) {
        Hall one = busy(), other = busy();
        call.to(one);
        String text = Hall.latest();
        compare(text, askBusy(one), askBusy(other));
    }

    private static void compare(String call, List<Long> got, List<Long> want) {
        for (int i = 0; i < want.size(); i++) {
            if (got.get(i).equals(want.get(i))) continue;
            Bounds.fault("behind " + call + " " + ASKED.get(i) + " answered " + got.get(i) + ", without it " + want.get(i));
            return;
        }
    }

    private static void ask(List<Long> answers, long answer) {
        answers.add(answer);
        ASKED.add(Hall.latest());
    }

    private static List<Long> askBusy(Hall x) {
        List<Long> answers = new ArrayList<>();
        ASKED.clear();
        for (int what = 0; what <= 7; what++) ask(answers, x.count(what));
        for (int p = 0; p <= 7; p++) for (int what = 0; what <= 3; what++) ask(answers, x.of(p, what));
        for (int peace = 0; peace <= 6; peace++) for (int what = 0; what <= 5; what++) ask(answers, x.ofPeace(peace, what));
        for (int i = 0; i <= 5; i++) ask(answers, x.blow(i));
        ask(answers, x.alive());
        for (int i = 0; i <= 7; i++) ask(answers, x.trace(i));
        for (int i = 0; i <= 7; i++) ask(answers, x.element(0, i));
        for (int i = 0; i <= 4; i++) ask(answers, x.element(1, i));
        for (int i = 0; i <= 2; i++) ask(answers, x.element(2, i));
        for (int peg = 0; peg <= 5; peg++) ask(answers, x.taken(peg, 0));
        for (int peg = 0; peg <= 5; peg++) ask(answers, x.put(peg, 60, 1));
        for (int peg = 0; peg <= 5; peg++) ask(answers, x.shift(peg, 0, peg, 0, 0));
        ask(answers, x.shift(5, 0, 5, 0, 1));
        for (int p = 0; p <= 6; p++) {
            for (int q = p + 1; q <= 6; q++) {
                ask(answers, x.steps(p, q));
                ask(answers, x.near(p, q, 30, 1));
                ask(answers, x.between(100 * p + q, 35));
                ask(answers, x.must(100 * p + q, 126, 60));
                ask(answers, x.must(100 * q + p, 126, 60));
            }
        }
        askLists(x, answers);
        goOn(x, answers);
        return answers;
    }

    private static void askLists(Hall x, List<Long> answers) {
        for (int what = 0; what <= 2; what++) ask(answers, x.together(126, 410060, what));
        ask(answers, x.most(126, 0, 410060));
        for (int what = 0; what <= 1; what++) {
            ask(answers, x.rooms(126, 410060, what));
            ask(answers, x.buy(38, 410060, what));
            ask(answers, x.wed(103, 60, what));
        }
        ask(answers, x.leave(50, 60, 101));
        ask(answers, x.worst(126, 60));
        for (int p = 0; p <= 6; p++) ask(answers, x.road(p, 0));
    }

    /** What comes next shows what no call tells: the bytes on the tape, the customs, what can be undone and done again. */
    private static void goOn(Hall x, List<Long> answers) {
        ask(answers, x.strike(104, 126, 60, 0));
        for (int i = 0; i <= 5; i++) ask(answers, x.blow(i));
        ask(answers, x.feed(1, 'c'));
        ask(answers, x.custom(0));
        ask(answers, x.must(104, 126, 35));
        for (int i = 0; i <= 1; i++) {
            ask(answers, x.redo());
            ask(answers, x.ofPeace(2, 0));
        }
        for (int i = 0; i <= 4; i++) {
            ask(answers, x.undo());
            ask(answers, x.count(5));
            ask(answers, x.ofPeace(0, 5));
            ask(answers, x.of(1, 2));
            ask(answers, x.near(2, 5, 50, 1));
        }
        ask(answers, x.people(0, 0, 2));
        ask(answers, x.person(7, 1, 0));
        ask(answers, x.kin(0, 6));
        ask(answers, x.feud(1, 0, 0));
        ask(answers, x.peace(0, 0, 0, 0));
    }

    private static List<Long> askFull(Hall x) {
        List<Long> answers = new ArrayList<>();
        ASKED.clear();
        for (int what = 0; what <= 7; what++) ask(answers, x.count(what));
        for (int p = 0; p < 32; p++) ask(answers, x.of(p, 1));
        for (int i = 0; i < 60; i++) ask(answers, x.ofPeace(i, 3));
        for (int p = 0; p < 31; p++) ask(answers, x.near(p, 31, 99, 1));
        ask(answers, x.steps(29, 31));
        ask(answers, x.steps(0, 31));
        ask(answers, x.wed(31, 99, 1));
        ask(answers, x.custom(0));
        for (int i = 39; i >= 30; i--) {
            ask(answers, x.undo());
            ask(answers, x.pay(i, 2400));
        }
        ask(answers, x.redo());
        return answers;
    }
}
