/**
 * A OneRoof whose calls are counted, since what an object answers behind its 512th call is free and no test may lean on
 * it; the text of the latest call is kept, so that a test can tell which one went wrong.
 */
public final class Hall {
    private static final int PROMISED = 512;
    private static String latest = "";
    private final OneRoof roof = new OneRoof();
    private int calls = 0;

    /** A hall with people without lords, of weight 5, with swords hung up. */
    public static Hall with(int people) {
        Hall hall = new Hall();
        for (int i = 0; i < people; i++) hall.person(-1, 5, 0);
        return hall;
    }

    /** A hall in which 0, without a lord, is the lord of all the others, otherwise as above. */
    public static Hall underOneLord(int others) {
        Hall hall = with(1);
        for (int i = 0; i < others; i++) hall.person(0, 5, 0);
        return hall;
    }

    public static String latest() {
        return latest;
    }

    /** Feeds a text, four bytes a call, without making it a custom. */
    public void tape(String text) {
        for (int i = 0; i < text.length(); i += 4) {
            int n = Math.min(4, text.length() - i), v = 0;
            for (int j = 0; j < n; j++) v |= text.charAt(i + j) << 8 * j;
            feed(n, v);
        }
    }

    /** Feeds a text and makes it the custom of a use. */
    public int tell(int use, String text) {
        tape(text);
        int answer = custom(use);
        latest = latest + " of " + text;
        return answer;
    }

    private void note(String name, long... arguments) {
        StringBuilder text = new StringBuilder(name).append('(');
        for (int i = 0; i < arguments.length; i++) text.append(i == 0 ? "" : ", ").append(arguments[i]);
        latest = text.append(')').toString();
        if (++calls == PROMISED + 1) Bounds.fault("more than " + PROMISED + " calls of one object");
    }

    // ---- the face

    public int person(int lord, int weight, int sword) {
        note("person", lord, weight, sword);
        return roof.person(lord, weight, sword);
    }

    public int people(int peg, int i, int n) {
        note("people", peg, i, n);
        return roof.people(peg, i, n);
    }

    public int of(int person, int what) {
        note("of", person, what);
        return roof.of(person, what);
    }

    public int sword(int person, int v) {
        note("sword", person, v);
        return roof.sword(person, v);
    }

    public int kin(int person, int other) {
        note("kin", person, other);
        return roof.kin(person, other);
    }

    public int steps(int person, int other) {
        note("steps", person, other);
        return roof.steps(person, other);
    }

    public int feud(int pq, int hour, int bp) {
        note("feud", pq, hour, bp);
        return roof.feud(pq, hour, bp);
    }

    public int pay(int feud, int v) {
        note("pay", feud, v);
        return roof.pay(feud, v);
    }

    public int near(int person, int other, int hour, int what) {
        note("near", person, other, hour, what);
        return roof.near(person, other, hour, what);
    }

    public int peace(int gk, long covers, int from, int behind) {
        note("peace", gk, covers, from, behind);
        return roof.peace(gk, covers, from, behind);
    }

    public int ofPeace(int peace, int what) {
        note("ofPeace", peace, what);
        return roof.ofPeace(peace, what);
    }

    public int cover(int peace, int person, int v) {
        note("cover", peace, person, v);
        return roof.cover(peace, person, v);
    }

    public int holds(int peace, int pq, int hour) {
        note("holds", peace, pq, hour);
        return roof.holds(peace, pq, hour);
    }

    public int between(int pq, int hour) {
        note("between", pq, hour);
        return roof.between(pq, hour);
    }

    public int proof(int pq, int hour) {
        note("proof", pq, hour);
        return roof.proof(pq, hour);
    }

    public int feed(int n, int v) {
        note("feed", n, v);
        return roof.feed(n, v);
    }

    public int custom(int use) {
        note("custom", use);
        return roof.custom(use);
    }

    public int must(int pq, long there, int hour) {
        note("must", pq, there, hour);
        return roof.must(pq, there, hour);
    }

    public int together(long there, int fromTo, int what) {
        note("together", there, fromTo, what);
        return roof.together(there, fromTo, what);
    }

    public int bars(int pq, int fromTo) {
        note("bars", pq, fromTo);
        return roof.bars(pq, fromTo);
    }

    public long most(long told, long refuse, int fromTo) {
        note("most", told, refuse, fromTo);
        return roof.most(told, refuse, fromTo);
    }

    public long rooms(long told, int fromTo, int what) {
        note("rooms", told, fromTo, what);
        return roof.rooms(told, fromTo, what);
    }

    public long buy(long told, int fromTo, int what) {
        note("buy", told, fromTo, what);
        return roof.buy(told, fromTo, what);
    }

    public int road(int person, int v) {
        note("road", person, v);
        return roof.road(person, v);
    }

    public int leave(long told, int hour, int sf) {
        note("leave", told, hour, sf);
        return roof.leave(told, hour, sf);
    }

    public int strike(int pq, long there, int hour, int deed) {
        note("strike", pq, there, hour, deed);
        return roof.strike(pq, there, hour, deed);
    }

    public int blow(int i) {
        note("blow", i);
        return roof.blow(i);
    }

    public long alive() {
        note("alive");
        return roof.alive();
    }

    public int worst(long there, int hour) {
        note("worst", there, hour);
        return roof.worst(there, hour);
    }

    public int wed(int pq, int hour, int what) {
        note("wed", pq, hour, what);
        return roof.wed(pq, hour, what);
    }

    public int undo() {
        note("undo");
        return roof.undo();
    }

    public int redo() {
        note("redo");
        return roof.redo();
    }

    public int act(int peace, int act, int x) {
        note("act", peace, act, x);
        return roof.act(peace, act, x);
    }

    public int trace(int i) {
        note("trace", i);
        return roof.trace(i);
    }

    public int keep(int peg, int peace) {
        note("keep", peg, peace);
        return roof.keep(peg, peace);
    }

    public int row(int peg, int sort, int n) {
        note("row", peg, sort, n);
        return roof.row(peg, sort, n);
    }

    public int put(int peg, int i, long v) {
        note("put", peg, i, v);
        return roof.put(peg, i, v);
    }

    public long element(int peg, int i) {
        note("element", peg, i);
        return roof.element(peg, i);
    }

    public int shift(int peg, int i, int other, int j, int n) {
        note("shift", peg, i, other, j, n);
        return roof.shift(peg, i, other, j, n);
    }

    public int taken(int peg, int k) {
        note("taken", peg, k);
        return roof.taken(peg, k);
    }

    public int count(int what) {
        note("count", what);
        return roof.count(what);
    }
}
