import java.util.ArrayList;
import java.util.List;
import java.util.Random;

/** Long runs of calls with a fixed seed, each answered by OneRoof and by a slow model that follows the document's words. */
public final class NaiveCompare {
    private static int wrong = 0;

    // ---------------------------------------------------------------- the slow model

    private static final class Person { int lord, weight, sword, road; boolean dead; }
    private static final class Feud { int one, other, hour, binding, price, paid; }
    private static final class Peace { int kind, giver, first, last, behind; long covers; }
    private static final class Change { char sort; int a, b, before, after; }
    private static final class Row { List<int[]> blows = new ArrayList<>(); List<Integer> broken = new ArrayList<>(); long left; }

    private static final class Model {
        List<Person> people = new ArrayList<>();
        List<int[]> kin = new ArrayList<>();
        List<Feud> feuds = new ArrayList<>();
        List<Peace> peaces = new ArrayList<>();
        String tape = "";
        String[] customs = {"f&!c", "d<2&w"};
        List<Change> done = new ArrayList<>(), undone = new ArrayList<>();
        Row latest = null;

        boolean is(int p) { return p >= 0 && p < people.size(); }
        boolean pair(int pq) { return pq >= 0 && is(pq / 100) && is(pq % 100) && pq / 100 != pq % 100; }
        boolean hour(int h) { return h >= 0 && h < 2400; }
        boolean set(long s) {
            for (int i = 0; i < 64; i++) if ((s >>> i & 1) != 0 && !is(i)) return false;
            return true;
        }
        boolean window(int ft) {
            if (ft < 0) return false;
            int a = ft / 10000, b = ft % 10000;
            return hour(a) && hour(b) && a <= b && b - a + 1 <= 48;
        }
        List<Integer> living(long s) {
            List<Integer> l = new ArrayList<>();
            for (int i = 0; i < people.size(); i++) if ((s >>> i & 1) != 0 && !people.get(i).dead) l.add(i);
            return l;
        }

        int steps(int a, int b) {
            int[] d = new int[people.size()];
            java.util.Arrays.fill(d, 99);
            d[a] = 0;
            for (int round = 0; round < 9; round++)
                for (int[] k : kin)
                    for (int t = 0; t < 2; t++)
                        if (d[k[t]] == round && d[k[1 - t]] > round + 1) d[k[1 - t]] = round + 1;
            return d[b];
        }
        int sum(Feud f, int p, int q, int h) {
            if (p == q || h < f.hour || (f.paid != 2400 && f.paid <= h)) return 99;
            int best = 99;
            if (steps(p, f.one) <= f.binding && steps(q, f.other) <= f.binding) best = steps(p, f.one) + steps(q, f.other);
            if (steps(q, f.one) <= f.binding && steps(p, f.other) <= f.binding) best = Math.min(best, steps(q, f.one) + steps(p, f.other));
            return best;
        }
        int near(int p, int q, int h) {
            int best = 99;
            for (Feud f : feuds) best = Math.min(best, sum(f, p, q, h));
            return best;
        }
        boolean lordOf(int l, int p) {
            for (int at = people.get(p).lord; at >= 0; at = people.get(at).lord) if (at == l) return true;
            return false;
        }
        boolean holds(int n, int p, int q, int h) {
            Peace e = peaces.get(n);
            if (e.kind == 6 || h < e.first || h > e.last + (e.kind == 2 ? e.behind : 0)) return false;
            boolean a = (e.covers >>> p & 1) != 0, b = (e.covers >>> q & 1) != 0;
            if (e.kind == 1 || e.kind == 2) return a && b || a && q == e.giver || b && p == e.giver;
            if (e.kind == 3) return a || b;
            if (e.kind == 4) return a && b;
            if (e.kind == 5) return true;
            return (p == e.giver || lordOf(e.giver, p)) && (q == e.giver || lordOf(e.giver, q));
        }
        int between(int p, int q, int h) {
            int c = 0;
            for (int i = 0; i < peaces.size(); i++) if (holds(i, p, q, h)) c++;
            return c;
        }

        int ask(int use, int p, int q, int struck, List<Integer> there, int h) {
            int n = near(p, q, h), o = 0;
            for (int r : there) if (r == p || people.get(r).lord != -1 && people.get(r).lord == people.get(p).lord) o++;
            int[] v = new int[128];
            v['f'] = n < 99 ? 1 : 0;
            v['n'] = Math.min(9, n);
            v['c'] = between(p, q, h);
            v['w'] = people.get(p).sword;
            v['v'] = people.get(q).sword;
            v['l'] = lordOf(q, p) ? 1 : 0;
            v['k'] = Math.min(9, steps(p, q));
            v['o'] = o;
            v['d'] = use == 0 ? 0 : Math.min(9, steps(p, struck));
            return new Text(customs[use], v).all();
        }
        boolean must(int p, int q, List<Integer> there, int h) { return ask(0, p, q, -1, there, h) != 0; }
        boolean bars(int p, int q, int ft) {
            for (int h = ft / 10000; h <= ft % 10000; h++)
                if (must(p, q, List.of(p, q), h) || must(q, p, List.of(p, q), h)) return true;
            return false;
        }
        boolean calm(List<Integer> l, int set, boolean[][] bar) {
            for (int i = 0; i < l.size(); i++)
                for (int j = 0; j < l.size(); j++)
                    if (i != j && (set >> i & 1) != 0 && (set >> j & 1) != 0 && bar[i][j]) return false;
            return true;
        }
        int weight(List<Integer> l, int set) {
            int w = 0;
            for (int i = 0; i < l.size(); i++) if ((set >> i & 1) != 0) w += people.get(l.get(i)).weight;
            return w;
        }
        long bits(List<Integer> l, int set) {
            long b = 0;
            for (int i = 0; i < l.size(); i++) if ((set >> i & 1) != 0) b |= 1L << l.get(i);
            return b;
        }
        boolean[][] barTable(List<Integer> l, int ft) {
            boolean[][] bar = new boolean[l.size()][l.size()];
            for (int i = 0; i < l.size(); i++) for (int j = 0; j < l.size(); j++) if (i != j) bar[i][j] = bars(l.get(i), l.get(j), ft);
            return bar;
        }
        long most(long told, long refuse, int ft) {
            if (!set(told) || !set(refuse) || !window(ft)) return -1;
            for (int i = 0; i < people.size(); i++) if ((refuse >> i & 1) != 0 && (told >> i & 1) == 0) return -1;
            List<Integer> l = living(told);
            long need = 0;
            for (int i : living(refuse)) need |= 1L << i;
            if (l.isEmpty() || l.size() > 12) return -1;
            boolean[][] bar = barTable(l, ft);
            long best = -2;
            int bw = -1, bn = -1;
            for (int s = 0; s < 1 << l.size(); s++) {
                long b = bits(l, s);
                if ((b & need) != need || !calm(l, s, bar)) continue;
                int w = weight(l, s), n = Integer.bitCount(s);
                if (w > bw || w == bw && n > bn) { best = b; bw = w; bn = n; }
            }
            return best;
        }
        long rooms(long told, int ft, int what) {
            if (!set(told) || !window(ft) || what < 0 || what > 1) return -1;
            List<Integer> l = living(told);
            if (l.isEmpty() || l.size() > 12) return -1;
            boolean[][] bar = barTable(l, ft);
            int best = -1, bw = -1, bs = 0;
            for (int a = 0; a < 1 << l.size(); a++) {
                if (!calm(l, a, bar)) continue;
                for (int b = 0; b < 1 << l.size(); b++) {
                    if ((a & b) != 0 || !calm(l, b, bar)) continue;
                    int wa = weight(l, a), both = wa + weight(l, b);
                    if (both > best || both == best && wa > bw) { best = both; bw = wa; bs = a; }
                }
            }
            return what == 0 ? best : bits(l, bs);
        }
        long buy(long told, int ft, int what) {
            if (!set(told) || !window(ft) || what < 0 || what > 1) return -1;
            List<Integer> l = living(told);
            if (l.isEmpty() || l.size() > 12) return -1;
            List<Integer> open = new ArrayList<>();
            for (int i = 0; i < feuds.size() && open.size() < 10; i++) if (feuds.get(i).paid > ft / 10000) open.add(i);
            long best = -2;
            int bp = -1, bn = 0;
            for (int s = 0; s < 1 << open.size(); s++) {
                int price = 0, n = Integer.bitCount(s);
                for (int i = 0; i < open.size(); i++) if ((s >> i & 1) != 0) price += feuds.get(open.get(i)).price;
                if (bp >= 0 && (price > bp || price == bp && n >= bn)) continue;
                int[] was = new int[feuds.size()];
                for (int i = 0; i < was.length; i++) was[i] = feuds.get(i).paid;
                for (int i = 0; i < open.size(); i++) if ((s >> i & 1) != 0) feuds.get(open.get(i)).paid = 0;
                boolean fine = true;
                for (int i = 0; i < l.size() && fine; i++) for (int j = 0; j < i && fine; j++) fine = !bars(l.get(i), l.get(j), ft);
                for (int i = 0; i < was.length; i++) feuds.get(i).paid = was[i];
                if (!fine) continue;
                bp = price;
                bn = n;
                best = 0;
                for (int i = 0; i < open.size(); i++) if ((s >> i & 1) != 0) best |= 1L << open.get(i);
            }
            return bp < 0 ? -2 : what == 0 ? bp : best;
        }
        int leave(long told, int h, int sf) {
            if (!set(told) || !hour(h) || sf < 0 || sf / 100 < 1 || sf / 100 > 24) return -1;
            List<Integer> l = living(told);
            if (l.isEmpty() || l.size() > 6) return -1;
            int top = 1;
            for (int i = 0; i < l.size(); i++) top *= 10;
            for (int digits = top / 10; digits < top; digits++) {
                String s = "" + digits;
                boolean fine = true;
                for (int i = 1; i <= l.size(); i++) fine &= s.indexOf((char) ('0' + i)) >= 0;
                for (int a = 0; a < l.size() && fine; a++)
                    for (int b = a + 1; b < l.size() && fine; b++) {
                        int p = l.get(s.charAt(a) - '1'), q = l.get(s.charAt(b) - '1'), start = sf / 100;
                        int at = h + b * start;
                        if (people.get(p).road == people.get(q).road && (b - a) * start <= sf % 100
                            && near(p, q, at) < 99 && between(p, q, at) == 0) fine = false;
                    }
                if (fine) return digits;
            }
            return -2;
        }

        Row tell(int p, int q, List<Integer> there, int h) {
            Row row = new Row();
            int[] kinds = new int[peaces.size()];
            for (int i = 0; i < kinds.length; i++) kinds[i] = peaces.get(i).kind;
            List<Integer> alive = new ArrayList<>(there);
            int[] next = {p, q};
            while (next != null) {
                row.blows.add(next);
                alive.remove((Integer) next[1]);
                List<Integer> breaking = new ArrayList<>();
                for (int i = 0; i < peaces.size(); i++) {
                    Peace e = peaces.get(i);
                    if (holds(i, next[0], next[1], h) && (e.giver == next[0] || (e.covers >>> next[0] & 1) != 0)) breaking.add(i);
                }
                for (int i : breaking) { peaces.get(i).kind = 6; row.broken.add(i); }
                next = row.blows.size() >= 31 ? null : nextBlow(row, alive, h);
            }
            for (int i : alive) row.left |= 1L << i;
            for (int i = 0; i < kinds.length; i++) peaces.get(i).kind = kinds[i];
            return row;
        }
        int[] nextBlow(Row row, List<Integer> alive, int h) {
            for (int r : alive)
                for (int s : alive) {
                    if (r == s) continue;
                    for (int[] b : row.blows) if (b[0] == s && ask(1, r, s, b[1], alive, h) != 0) return new int[] {r, s};
                }
            for (int p : alive) for (int q : alive) if (p != q && must(p, q, alive, h)) return new int[] {p, q};
            return null;
        }
        int strike(int pq, long there, int h, int deed) {
            if (!pair(pq) || !set(there) || !hour(h) || deed < 0 || deed > 1) return -1;
            List<Integer> l = living(there);
            if (!l.contains(pq / 100) || !l.contains(pq % 100)) return -1;
            latest = tell(pq / 100, pq % 100, l, h);
            if (deed == 1) {
                for (int i : latest.broken) change('k', i, 0, 6);
                for (int[] b : latest.blows) people.get(b[1]).dead = true;
            }
            return latest.blows.size();
        }
        int worst(long there, int h) {
            if (!set(there) || !hour(h)) return -1;
            List<Integer> l = living(there);
            int best = -2, few = 99;
            for (int p : l) for (int q : l) {
                if (p == q) continue;
                int left = Long.bitCount(tell(p, q, l, h).left);
                if (left < few) { few = left; best = 100 * p + q; }
            }
            return best;
        }
        int feudPairs(int h) {
            int c = 0;
            for (int p = 0; p < people.size(); p++) for (int q = 0; q < p; q++) if (near(p, q, h) < 99) c++;
            return c;
        }
        int wed(int pq, int h, int what) {
            if (!pair(pq) || !hour(h) || what < 0 || what > 1) return -1;
            if (steps(pq / 100, pq % 100) == 1) return -1;
            int now = feudPairs(h);
            if (what == 1) return now;
            kin.add(new int[] {pq / 100, pq % 100});
            int then = feudPairs(h);
            kin.remove(kin.size() - 1);
            return then - now;
        }

        int get(char sort, int a, int b) {
            if (sort == 'p') return feuds.get(a).paid;
            if (sort == 's') return people.get(a).sword;
            if (sort == 'k') return peaces.get(a).kind;
            return (int) (peaces.get(a).covers >>> b & 1);
        }
        void put(char sort, int a, int b, int v) {
            if (sort == 'p') feuds.get(a).paid = v;
            else if (sort == 's') people.get(a).sword = v;
            else if (sort == 'k') peaces.get(a).kind = v;
            else peaces.get(a).covers = peaces.get(a).covers & ~(1L << b) | (long) v << b;
        }
        int change(char sort, int a, int b, int v) {
            int was = get(sort, a, b);
            if (was == v) return was;
            Change c = new Change();
            c.sort = sort; c.a = a; c.b = b; c.before = was; c.after = v;
            done.add(c);
            if (done.size() > 40) done.remove(0);
            undone.clear();
            put(sort, a, b, v);
            return was;
        }
        int undo() {
            if (done.isEmpty()) return -5;
            Change c = done.remove(done.size() - 1);
            undone.add(c);
            put(c.sort, c.a, c.b, c.before);
            return done.size();
        }
        int redo() {
            if (undone.isEmpty()) return -5;
            Change c = undone.remove(undone.size() - 1);
            done.add(c);
            put(c.sort, c.a, c.b, c.after);
            return undone.size();
        }
        int custom(int use) {
            if (use < 0 || use > 1) return -1;
            String t = tape;
            tape = "";
            if (Text.isWhole(t)) { customs[use] = t; return 1; }
            for (int i = 0; i < t.length(); i++) if (!Text.canGoOn(t.substring(0, i + 1))) return -100 - i;
            return -100 - t.length();
        }
    }

    /** Works a text out while it reads it; a text that is none makes it fail. */
    private static final class Text {
        final String t;
        final int[] v;
        int at = 0;
        Text(String t, int[] v) { this.t = t; this.v = v; }

        static boolean isWhole(String t) {
            try {
                new Text(t, new int[128]).all();
                return true;
            } catch (IllegalStateException e) {
                return false;
            }
        }
        static boolean canGoOn(String t) {
            String close = "";
            for (int i = 0; i <= 6; i++, close += ")") if (isWhole(t + close) || isWhole(t + "f" + close)) return true;
            return false;
        }
        char peek() { return at < t.length() ? t.charAt(at) : '$'; }
        boolean eat(String any) {
            if (any.indexOf(peek()) < 0) return false;
            at++;
            return true;
        }
        int all() {
            Integer counts = null;
            do {
                int a = e(0);
                if (eat("?")) {
                    int b = e(0);
                    if (counts == null && a != 0) counts = b;
                } else if (counts == null) counts = a;
            } while (eat(";"));
            if (at != t.length()) throw new IllegalStateException();
            return counts == null ? 0 : counts;
        }
        int e(int open) {
            int x = a(open);
            while (eat("|")) { int y = a(open); x = x != 0 || y != 0 ? 1 : 0; }
            return x;
        }
        int a(int open) {
            int x = b(open);
            while (eat("&")) { int y = b(open); x = x != 0 && y != 0 ? 1 : 0; }
            return x;
        }
        int b(int open) {
            int x = s(open);
            if (eat("<")) return x < s(open) ? 1 : 0;
            if (eat("=")) return x == s(open) ? 1 : 0;
            if (eat(">")) return x > s(open) ? 1 : 0;
            return x;
        }
        int s(int open) {
            int x = p(open);
            while (true) {
                if (eat("+")) x += p(open);
                else if (eat("-")) x -= p(open);
                else return x;
            }
        }
        int p(int open) {
            int x = o(open);
            while (true) {
                if (eat("*")) x *= o(open);
                else if (eat("/")) { int y = o(open); x = y == 0 ? 0 : x / y; }
                else if (eat("%")) { int y = o(open); x = y == 0 ? 0 : x % y; }
                else return x;
            }
        }
        int o(int open) {
            char c = peek();
            if (c >= '0' && c <= '9') {
                int from = at;
                while (peek() >= '0' && peek() <= '9') at++;
                if (at - from > 4) throw new IllegalStateException();
                return Integer.parseInt(t.substring(from, at));
            }
            if (eat("fncwvlkod")) return v[c];
            if (open >= 6 || !eat("!-(")) throw new IllegalStateException();
            if (c == '!') return o(open + 1) == 0 ? 1 : 0;
            if (c == '-') return -o(open + 1);
            int x = e(open + 1);
            if (!eat(")")) throw new IllegalStateException();
            return x;
        }
    }

    // ---------------------------------------------------------------- the runs

    private static Random dice;
    private static OneRoof roof;
    private static Model model;
    private static String where;
    private static int dense;

    private static void same(String call, long got, long want) {
        if (got == want) return;
        wrong++;
        if (wrong <= 40) System.out.println(where + ": " + call + " answered " + got + ", the model says " + want);
    }
    private static int any(int below) { return dice.nextInt(below); }
    private static int who() { return any(30) == 0 ? any(40) - 4 : any(Math.max(1, model.people.size())); }
    private static int two() { return 100 * who() + who(); }
    private static int when() { return any(40) == 0 ? 2399 + any(3) - 1 : any(60); }
    private static int span() {
        int a = when(), b = any(30) == 0 ? a - 1 : a + any(any(8) == 0 ? 50 : 6);
        return 10000 * a + b;
    }
    private static long crowd() {
        long all = (1L << model.people.size()) - 1;
        if (any(60) == 0) return dice.nextLong();
        return any(3) == 0 ? all : all & dice.nextLong();
    }

    private static String text(int open) {
        String[] parts = {"f", "n", "c", "w", "v", "l", "k", "o", "d", "1", "0", "2", "9999", "03"};
        String joins = "||&&<=>+-*/%";
        StringBuilder b = new StringBuilder();
        int n = 1 + any(3);
        for (int i = 0; i < n; i++) {
            if (i > 0) b.append(joins.charAt(any(joins.length())));
            int form = any(8);
            if (form == 0 && open < 6) b.append("(").append(text(open + 1)).append(")");
            else if (form == 1 && open < 6) b.append("!").append(parts[any(parts.length)]);
            else if (form == 2 && open < 6) b.append("-").append(parts[any(parts.length)]);
            else b.append(parts[any(parts.length)]);
        }
        return b.toString();
    }
    private static String anyText() {
        String[] plain = {"f&!c", "f", "f&!c&w", "n<2", "f&o>1&!c", "c<1&f;l?1;k<1", "f&n<3&!c|o>4", "d<2&w", "d<1|k<2", "f?!c;w&v&k>3",
            "(2-n)*f*!c", "o-3", "d<2&w&!c", "w", "f|k=1", "n=9?0;c?0;3-n", "n>2&n<9"};
        if (any(3) > 0) return plain[any(plain.length)];
        StringBuilder b = new StringBuilder(text(0));
        if (any(3) == 0) b.append("?").append(text(0));
        if (any(3) == 0) b.append(";").append(text(0));
        if (any(4) == 0 && b.length() > 0) {
            String signs = "f;?()!-<9z &";
            b.setCharAt(any(b.length()), signs.charAt(any(signs.length())));
        }
        return b.toString();
    }
    private static void tellCustom() {
        String t = anyText();
        for (int i = 0; i < t.length(); i += 4) {
            int n = Math.min(4, t.length() - i), v = 0;
            for (int j = 0; j < n; j++) v |= t.charAt(i + j) << 8 * j;
            int want = model.tape.length() + n > 120 ? -3 : model.tape.length() + n;
            if (want > 0) model.tape += t.substring(i, i + n);
            same("feed(" + n + ", " + v + ")", roof.feed(n, v), want);
        }
        int use = any(20) == 0 ? 2 : any(2);
        String tape = model.tape;
        same("custom(" + use + ") of " + tape, roof.custom(use), model.custom(use));
    }

    private static void grow() {
        switch (any(6)) {
            case 0: {
                int lord = any(3) == 0 ? -1 : who(), weight = any(20) == 0 ? any(110) - 5 : 1 + any(12), sword = any(20) == 0 ? 2 : any(2);
                int want = -1;
                if (lord >= -1 && lord < model.people.size() && weight >= 1 && weight <= 99 && sword < 2) {
                    want = model.people.size() == 32 ? -3 : model.people.size();
                    if (want >= 0) {
                        Person p = new Person();
                        p.lord = lord; p.weight = weight; p.sword = sword;
                        model.people.add(p);
                    }
                }
                same("person(" + lord + ", " + weight + ", " + sword + ")", roof.person(lord, weight, sword), want);
                break;
            }
            case 1: case 2: {
                int a = who(), b = any(3) > 0 ? a + 1 + any(2) : who(), want = -1;
                if (model.is(a) && model.is(b) && a != b && model.steps(a, b) != 1) {
                    want = model.kin.size() == 60 ? -3 : model.kin.size() + 1;
                    if (want > 0) model.kin.add(new int[] {a, b});
                }
                same("kin(" + a + ", " + b + ")", roof.kin(a, b), want);
                break;
            }
            case 3: case 4: {
                int pq = two(), h = when(), bp = any(20) == 0 ? any(6000) - 500 : 1000 * any(4) + any(8) * 5, want = -1;
                if (model.pair(pq) && model.hour(h) && bp >= 0 && bp < 4000) {
                    want = model.feuds.size() == 40 ? -3 : model.feuds.size();
                    if (want >= 0) {
                        Feud f = new Feud();
                        f.one = pq / 100; f.other = pq % 100; f.hour = h; f.binding = bp / 1000; f.price = bp % 1000; f.paid = 2400;
                        model.feuds.add(f);
                    }
                }
                same("feud(" + pq + ", " + h + ", " + bp + ")", roof.feud(pq, h, bp), want);
                break;
            }
            default: {
                if (any(dense) > 0) break;
                int kind = any(15) == 0 ? any(10) : any(4) == 0 ? any(6) : 1 + any(4);
                int g = who(), gk = 10 * g + kind, a = when(), b = any(20) == 0 ? a - 1 : a + any(25), behind = any(20) == 0 ? any(400) - 50 : any(10);
                long covers = any(40) == 0 ? dice.nextLong() : dice.nextLong() >>> 32 & dice.nextLong() & (1L << model.people.size() + 1) - 1;
                int from = 10000 * a + b, want = -1;
                if (gk >= 0 && model.is(gk / 10) && gk % 10 <= 5 && covers >= 0 && covers < 1L << 32 && from >= 0 && model.hour(from / 10000)
                    && model.hour(from % 10000) && from / 10000 <= from % 10000 && behind >= 0 && behind <= 240) {
                    want = model.peaces.size() == 60 ? -3 : model.peaces.size();
                    if (want >= 0) {
                        Peace e = new Peace();
                        e.giver = gk / 10; e.kind = gk % 10; e.covers = covers; e.first = from / 10000; e.last = from % 10000; e.behind = behind;
                        model.peaces.add(e);
                    }
                }
                same("peace(" + gk + ", " + covers + ", " + from + ", " + behind + ")", roof.peace(gk, covers, from, behind), want);
            }
        }
    }

    private static void alter() {
        switch (any(7)) {
            case 0: {
                int p = who(), v = any(20) == 0 ? 2 : any(2);
                same("sword(" + p + ", " + v + ")", roof.sword(p, v), model.is(p) && v < 2 ? model.change('s', p, 0, v) : -1);
                break;
            }
            case 1: {
                int f = any(model.feuds.size() + 1), v = any(10) == 0 ? 2399 + any(3) : when();
                same("pay(" + f + ", " + v + ")", roof.pay(f, v), f < model.feuds.size() && v <= 2400 ? model.change('p', f, 0, v) : -1);
                break;
            }
            case 2: {
                int e = any(model.peaces.size() + 1), p = who(), v = any(20) == 0 ? -1 : any(2);
                same("cover(" + e + ", " + p + ", " + v + ")", roof.cover(e, p, v),
                    e < model.peaces.size() && model.is(p) && v >= 0 ? model.change('c', e, p, v) : -1);
                break;
            }
            case 3: same("undo()", roof.undo(), model.undo()); break;
            case 4: same("redo()", roof.redo(), model.redo()); break;
            case 5: {
                int p = who(), v = any(5) - (any(20) == 0 ? 1 : 0), want = -1;
                if (model.is(p) && v >= 0 && v < 4) { want = model.people.get(p).road; model.people.get(p).road = v; }
                same("road(" + p + ", " + v + ")", roof.road(p, v), want);
                break;
            }
            default: tellCustom();
        }
    }

    private static void askSmall() {
        int p = who(), q = who(), h = when(), pq = two(), what = any(20) == 0 ? 2 : any(2);
        boolean both = model.is(p) && model.is(q);
        same("steps(" + p + ", " + q + ")", roof.steps(p, q), !both ? -1 : model.steps(p, q) > 9 ? -2 : model.steps(p, q));
        int want = -1;
        if (both && model.hour(h) && what < 2) {
            want = model.near(p, q, h);
            if (want == 99) want = -2;
            else if (what == 1) for (int i = model.feuds.size() - 1, n = want; i >= 0; i--) if (model.sum(model.feuds.get(i), p, q, h) == n) want = i;
        }
        same("near(" + p + ", " + q + ", " + h + ", " + what + ")", roof.near(p, q, h, what), want);
        boolean pair = model.pair(pq) && model.hour(h);
        int c = pair ? model.between(pq / 100, pq % 100, h) : -1, e = any(model.peaces.size() + 1);
        same("between(" + pq + ", " + h + ")", roof.between(pq, h), c);
        want = -1;
        if (pair) {
            want = -2;
            for (int i = 0; i < model.peaces.size() && c == 1; i++) if (model.holds(i, pq / 100, pq % 100, h)) want = i;
        }
        same("proof(" + pq + ", " + h + ")", roof.proof(pq, h), want);
        same("holds(" + e + ", " + pq + ", " + h + ")", roof.holds(e, pq, h),
            !pair || e >= model.peaces.size() ? -1 : model.holds(e, pq / 100, pq % 100, h) ? 1 : 0);
        long there = crowd();
        want = -2000000000;
        if (pair && model.set(there) && model.living(there).contains(pq / 100) && model.living(there).contains(pq % 100))
            want = model.ask(0, pq / 100, pq % 100, -1, model.living(there), h);
        same("must(" + pq + ", " + there + ", " + h + ")", roof.must(pq, there, h), want);
        int ft = span();
        same("bars(" + pq + ", " + ft + ")", roof.bars(pq, ft), !model.pair(pq) || !model.window(ft) ? -1 : model.bars(pq / 100, pq % 100, ft) ? 1 : 0);
    }

    private static void askTogether() {
        long there = crowd();
        int ft = span(), what = any(20) == 0 ? 3 : any(3);
        long want = -1;
        if (model.set(there) && model.window(ft) && what < 3) {
            want = -2;
            List<Integer> l = model.living(there);
            for (int h = ft / 10000; h <= ft % 10000 && want == -2; h++)
                for (int i = 0; i < l.size() && want == -2; i++)
                    for (int j = 0; j < l.size() && want == -2; j++)
                        if (i != j && model.must(l.get(i), l.get(j), l, h)) want = what == 0 ? h : what == 1 ? l.get(i) : l.get(j);
        }
        same("together(" + there + ", " + ft + ", " + what + ")", roof.together(there, ft, what), want);
    }

    private static void askLarge() {
        long told = crowd();
        int ft = span(), what = any(20) == 0 ? 2 : any(2), h = when();
        switch (any(6)) {
            case 0: case 1: {
                long refuse = any(3) == 0 ? 0 : any(10) == 0 ? dice.nextLong() & 63 : told & dice.nextLong() & dice.nextLong();
                same("most(" + told + ", " + refuse + ", " + ft + ")", roof.most(told, refuse, ft), model.most(told, refuse, ft));
                break;
            }
            case 2: same("rooms(" + told + ", " + ft + ", " + what + ")", roof.rooms(told, ft, what), model.rooms(told, ft, what)); break;
            case 3: same("buy(" + told + ", " + ft + ", " + what + ")", roof.buy(told, ft, what), model.buy(told, ft, what)); break;
            case 4: {
                int sf = any(20) == 0 ? any(3000) - 100 : 100 * (1 + any(6)) + any(12);
                same("leave(" + told + ", " + h + ", " + sf + ")", roof.leave(told, h, sf), model.leave(told, h, sf));
                break;
            }
            default: {
                int pq = two();
                same("wed(" + pq + ", " + h + ", " + what + ")", roof.wed(pq, h, what), model.wed(pq, h, what));
            }
        }
    }

    private static void askBlows() {
        long there = crowd();
        int h = when(), pq = two(), deed = any(40) == 0 ? 2 : any(6) == 0 ? 1 : 0;
        if (any(4) == 0) {
            same("worst(" + there + ", " + h + ")", roof.worst(there, h), model.worst(there, h));
            return;
        }
        same("strike(" + pq + ", " + there + ", " + h + ", " + deed + ")", roof.strike(pq, there, h, deed), model.strike(pq, there, h, deed));
        int blows = model.latest == null ? 0 : model.latest.blows.size();
        for (int i = -1; i <= blows; i++)
            same("blow(" + i + ")", roof.blow(i), i < 0 || i >= blows ? -1 : 100 * model.latest.blows.get(i)[0] + model.latest.blows.get(i)[1]);
        same("alive()", roof.alive(), model.latest == null ? -1 : model.latest.left);
        int dead = 0;
        for (Person p : model.people) if (p.dead) dead++;
        same("count(6)", roof.count(6), dead);
        same("count(5)", roof.count(5), model.done.size());
        for (int i = 0; i < model.peaces.size(); i++) same("ofPeace(" + i + ", 0)", roof.ofPeace(i, 0), model.peaces.get(i).kind);
    }

    private static void run(int seed, int people, int calls) {
        dice = new Random(seed);
        dense = 1 + seed % 3;
        roof = new OneRoof();
        model = new Model();
        where = "run " + seed;
        for (int i = 0; i < people; i++) {
            Person p = new Person();
            p.lord = i > 0 && any(3) > 0 ? any(i) : -1;
            p.weight = 1 + any(9);
            p.sword = any(2);
            model.people.add(p);
            same("person", roof.person(p.lord, p.weight, p.sword), i);
        }
        for (int i = 0; i < calls; i++) {
            where = "run " + seed + ", round " + i;
            int kind = any(10);
            if (i < calls / 3 || kind < 2) grow();
            else if (kind < 4) alter();
            else if (kind < 6) askSmall();
            else if (kind < 7) askTogether();
            else if (kind < 9) { if (model.people.size() <= 9) askLarge(); }
            else if (model.people.size() <= 12) askBlows();
        }
    }

    public static void main(String[] args) {
        int runs = args.length > 0 ? Integer.parseInt(args[0]) : 300;
        for (int seed = 1; seed <= runs; seed++) run(seed, seed % 5 == 0 ? 10 : 4 + seed % 5, 60 + seed % 80);
        for (int seed = 1001; seed <= 1000 + runs / 20; seed++) run(seed, 28, 150);
        System.out.println(wrong == 0 ? "all answers are the model's" : wrong + " answers are not the model's");
        if (wrong != 0) System.exit(1);
    }
}
