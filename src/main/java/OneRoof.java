import java.util.Arrays;

/**
 * Under one roof: people with lords, kin and feuds, the peaces between them, the customs that tell who must strike,
 * and what comes of it when they are together.
 */
public final class OneRoof {
    public static final int BAD = -1, NOT = -2, FULL = -3, STATE = -5, VOID = -2000000000;

    private static final int LAST_HOUR = 2399, UNPAID = 2400, MOST_HOURS = 48;
    private static final int MUST = 0, HELPS = 1;
    private static final int MOST_PEOPLE = 32, MOST_KIN = 60, MOST_FEUDS = 40, MOST_PEACES = 60;
    private static final int MOST_TAPE = 120, MOST_TOLD = 12, MOST_LEAVING = 6;
    private static final int NOTHING_THERE = -11, OTHER_KIND = -12, NO_PLACE = -13, SIZE_BELOW = -14;

    private final Folk folk = new Folk();
    private final Kinship kinship = new Kinship();
    private final Kinship wedded = new Kinship();
    private final Feuds feuds = new Feuds();
    private final Peaces peaces = new Peaces();
    private final Acts acts = new Acts();
    private final Pegs pegs = new Pegs();
    private final Custom[] customs = {new Custom("f&!c"), new Custom("d<2&w")};
    private final Moment moment = new Moment(folk, kinship, feuds, peaces, customs);
    private final Guests guests = new Guests(moment);
    private final Telling latest = new Telling(moment);
    private final Telling trial = new Telling(moment);
    private final History history = new History(folk, feuds, peaces);
    private final int[] tape = new int[MOST_TAPE];
    private Custom spare = new Custom("0");
    private int taped = 0;

    public OneRoof() {
    }

    // ---- people, kin, feuds

    public int person(int lord, int weight, int sword) {
        if (!folk.fits(lord, weight, sword)) return BAD;
        if (folk.size >= MOST_PEOPLE) return FULL;
        return folk.come(lord, weight, sword);
    }

    public int people(int peg, int i, int n) {
        if (!pegs.has(peg) || n < 1 || n > 20) return BAD;
        if (pegs.isEmpty(peg)) return 0;
        if (!pegs.isRowOf(peg, Pegs.BYTES)) return OTHER_KIND;
        for (int came = 0; came < n; came++) {
            // a long, so that no place told runs over the end of the ints
            long at = i + 3L * came;
            if (at < 0 || at + 2 >= pegs.length[peg] || folk.size >= MOST_PEOPLE) return came;
            int lord = (int) pegs.at(peg, (int) at);
            int weight = (int) pegs.at(peg, (int) at + 1);
            int sword = (int) pegs.at(peg, (int) at + 2);
            if (!folk.fits(lord, weight, sword)) return came;
            folk.come(lord, weight, sword);
        }
        return n;
    }

    public int of(int person, int what) {
        if (!folk.has(person)) return BAD;
        switch (what) {
            case 0: return folk.lord[person];
            case 1: return folk.weight[person];
            case 2: return folk.sword[person];
            case 3: return isIn(folk.dead, person) ? 1 : 0;
            default: return BAD;
        }
    }

    public int sword(int person, int v) {
        if (!folk.has(person) || !isBit(v)) return BAD;
        return history.change(History.SWORD, person, v);
    }

    public int kin(int person, int other) {
        if (!folk.has(person) || !folk.has(other) || person == other) return BAD;
        if (kinship.apart(person, other) == 1) return BAD;
        if (kinship.size >= MOST_KIN) return FULL;
        kinship.join(person, other, folk.size);
        return kinship.size;
    }

    public int steps(int person, int other) {
        if (!folk.has(person) || !folk.has(other)) return BAD;
        int steps = kinship.apart(person, other);
        return steps > Kinship.LOOKED_AT ? NOT : steps;
    }

    public int feud(int pq, int hour, int bp) {
        if (!folk.isPair(pq) || !isHour(hour) || bp < 0 || bp > 3999) return BAD;
        if (feuds.size >= MOST_FEUDS) return FULL;
        return feuds.begin(pq / 100, pq % 100, hour, bp / 1000, bp % 1000);
    }

    public int pay(int feud, int v) {
        if (feud < 0 || feud >= feuds.size || v < 0 || v > UNPAID) return BAD;
        return history.change(History.PAID, feud, v);
    }

    public int near(int person, int other, int hour, int what) {
        if (!folk.has(person) || !folk.has(other) || !isHour(hour) || !isBit(what)) return BAD;
        if (person == other) return NOT;
        int key = feuds.nearest(person, other, hour, kinship);
        if (key >= Feuds.NONE) return NOT;
        return what == 0 ? key / Feuds.SCALE : key % Feuds.SCALE;
    }

    // ---- peaces, customs

    public int peace(int gk, long covers, int from, int behind) {
        if (gk < 0 || gk % 10 > Peaces.KING || !folk.has(gk / 10)) return BAD;
        // those to come may be named, so all 32 bits are fine
        if (covers < 0 || covers >>> MOST_PEOPLE != 0) return BAD;
        if (!isSpan(from) || behind < 0 || behind > 240) return BAD;
        if (peaces.size >= MOST_PEACES) return FULL;
        return peaces.begin(gk / 10, gk % 10, covers, from, behind);
    }

    public int ofPeace(int peace, int what) {
        if (!peaces.has(peace)) return BAD;
        switch (what) {
            case 0: return peaces.kind[peace];
            case 1: return peaces.giver[peace];
            case 2: return peaces.first[peace];
            case 3: return peaces.last[peace];
            case 4: return peaces.behind[peace];
            case 5: return Long.bitCount(peaces.covers[peace]);
            default: return BAD;
        }
    }

    public int cover(int peace, int person, int v) {
        if (!peaces.has(peace) || !folk.has(person) || !isBit(v)) return BAD;
        return history.change(History.COVERS, peace * MOST_PEOPLE + person, v);
    }

    public int holds(int peace, int pq, int hour) {
        if (!peaces.has(peace) || !folk.isPair(pq) || !isHour(hour)) return BAD;
        return peaces.standsAt(peace, hour) && peaces.reaches(peace, pq / 100, pq % 100, folk) ? 1 : 0;
    }

    public int between(int pq, int hour) {
        if (!folk.isPair(pq) || !isHour(hour)) return BAD;
        return Long.bitCount(peaces.holding(pq / 100, pq % 100, hour, folk));
    }

    public int proof(int pq, int hour) {
        if (!folk.isPair(pq) || !isHour(hour)) return BAD;
        long holding = peaces.holding(pq / 100, pq % 100, hour, folk);
        return Long.bitCount(holding) == 1 ? Long.numberOfTrailingZeros(holding) : NOT;
    }

    public int feed(int n, int v) {
        if (n < 1 || n > 4) return BAD;
        if (taped + n > MOST_TAPE) return FULL;
        for (int i = 0; i < n; i++) tape[taped + i] = v >>> 8 * i & 255;
        taped += n;
        return taped;
    }

    public int custom(int use) {
        if (use != MUST && use != HELPS) return BAD;
        int fault = spare.read(tape, taped);
        taped = 0;
        if (fault >= 0) return -100 - fault;
        Custom old = customs[use];
        customs[use] = spare;
        spare = old;
        return 1;
    }

    // ---- together

    public int must(int pq, long there, int hour) {
        if (!folk.isPair(pq) || !folk.isSet(there) || !isHour(hour)) return VOID;
        long living = there & ~folk.dead;
        if (!isIn(living, pq / 100) || !isIn(living, pq % 100)) return VOID;
        moment.open(hour);
        return moment.weigh(MUST, pq / 100, pq % 100, Moment.NOBODY, living);
    }

    public int together(long there, int fromTo, int what) {
        if (!folk.isSet(there) || !isWindow(fromTo) || what < 0 || what > 2) return BAD;
        long living = there & ~folk.dead;
        int from = fromTo / 10000, to = fromTo % 10000;
        for (int hour = from; hour <= to; hour++) {
            if (hour > from && !moment.turnsAt(hour)) continue;
            moment.open(hour);
            int pair = moment.firstStrike(living);
            if (pair >= 0) return what == 0 ? hour : what == 1 ? pair / 100 : pair % 100;
        }
        return NOT;
    }

    public int bars(int pq, int fromTo) {
        if (!folk.isPair(pq) || !isWindow(fromTo)) return BAD;
        return moment.barred(pq / 100, pq % 100, fromTo / 10000, fromTo % 10000) ? 1 : 0;
    }

    public long most(long told, long refuse, int fromTo) {
        // looked at ahead of the dead: one who is not told is not as said, dead or alive
        if (!folk.isSet(told) || (refuse & ~told) != 0 || !isWindow(fromTo)) return BAD;
        long living = told & ~folk.dead;
        if (!isGathering(living, MOST_TOLD)) return BAD;
        guests.gather(living);
        guests.learnBars(fromTo / 10000, fromTo % 10000);
        return guests.heaviest(refuse & living);
    }

    public long rooms(long told, int fromTo, int what) {
        if (!folk.isSet(told) || !isWindow(fromTo) || !isBit(what)) return BAD;
        long living = told & ~folk.dead;
        if (!isGathering(living, MOST_TOLD)) return BAD;
        guests.gather(living);
        guests.learnBars(fromTo / 10000, fromTo % 10000);
        return guests.twoRooms(what);
    }

    public long buy(long told, int fromTo, int what) {
        if (!folk.isSet(told) || !isWindow(fromTo) || !isBit(what)) return BAD;
        long living = told & ~folk.dead;
        if (!isGathering(living, MOST_TOLD)) return BAD;
        guests.gather(living);
        return guests.payOff(fromTo / 10000, fromTo % 10000, what);
    }

    public int road(int person, int v) {
        if (!folk.has(person) || v < 0 || v > 3) return BAD;
        int was = folk.road[person];
        folk.road[person] = v;
        return was;
    }

    public int leave(long told, int hour, int sf) {
        if (!folk.isSet(told) || !isHour(hour) || sf < 100 || sf > 2499) return BAD;
        long living = told & ~folk.dead;
        if (!isGathering(living, MOST_LEAVING)) return BAD;
        guests.gather(living);
        guests.learnMeetings(hour, sf / 100, sf % 100);
        return guests.firstOrder();
    }

    // ---- blows

    public int strike(int pq, long there, int hour, int deed) {
        if (!folk.isPair(pq) || !folk.isSet(there) || !isHour(hour) || !isBit(deed)) return BAD;
        long living = there & ~folk.dead;
        if (!isIn(living, pq / 100) || !isIn(living, pq % 100)) return BAD;
        moment.open(hour);
        latest.tell(pq / 100, pq % 100, living);
        if (deed == 1) {
            folk.dead |= living & ~latest.left;
            for (int i = 0; i < latest.breaks; i++) history.change(History.KIND, latest.broken[i], Peaces.BROKEN);
        }
        return latest.blows;
    }

    public int blow(int i) {
        if (i < 0 || i >= latest.blows) return BAD;
        return latest.row[i];
    }

    public long alive() {
        return latest.blows == 0 ? -1 : latest.left;
    }

    public int worst(long there, int hour) {
        if (!folk.isSet(there) || !isHour(hour)) return BAD;
        long living = there & ~folk.dead;
        moment.open(hour);
        int worst = NOT, fewest = MOST_PEOPLE + 1;
        for (int p = 0; p < folk.size; p++) {
            for (int q = 0; q < folk.size; q++) {
                if (p == q || !isIn(living, p) || !isIn(living, q)) continue;
                trial.tell(p, q, living);
                if (Long.bitCount(trial.left) >= fewest) continue;
                fewest = Long.bitCount(trial.left);
                worst = 100 * p + q;
                // who strikes last is left, so it comes no worse than that
                if (fewest <= 1) return worst;
            }
        }
        return worst;
    }

    public int wed(int pq, int hour, int what) {
        if (!folk.isPair(pq) || !isHour(hour) || !isBit(what)) return BAD;
        int p = pq / 100, q = pq % 100;
        if (kinship.apart(p, q) == 1) return BAD;
        int now = feuds.pairsAt(hour, kinship, folk.size);
        if (what == 1) return now;
        wedded.become(kinship);
        wedded.join(p, q, folk.size);
        // more kin never ends a feud, so what is more then is what is new
        return feuds.pairsAt(hour, wedded, folk.size) - now;
    }

    public int undo() {
        return history.back();
    }

    public int redo() {
        return history.again();
    }

    // ---- acts, pegs

    public int act(int peace, int act, int x) {
        acts.forget();
        if (!peaces.has(peace) || act < 0 || act >= Acts.SORTS) return 0;
        return acts.start(peaces.kind[peace], act, x, peace);
    }

    public int trace(int i) {
        if (i < 0 || i >= acts.ran || i >= acts.kept.length) return BAD;
        return acts.kept[i];
    }

    public int keep(int peg, int peace) {
        if (!pegs.has(peg) || peace != -1 && !peaces.has(peace)) return BAD;
        pegs.hang(peg, peace);
        return 1;
    }

    public int row(int peg, int sort, int n) {
        if (!pegs.has(peg) || sort < 0 || sort >= Pegs.SORTS || n > Pegs.LONGEST) return BAD;
        if (n < 0) return SIZE_BELOW;
        pegs.hangRow(peg, sort, n);
        return 1;
    }

    public int put(int peg, int i, long v) {
        if (!pegs.has(peg)) return BAD;
        int refusal = pegs.refusalAt(peg, i);
        if (refusal != 0) return refusal;
        pegs.store(peg, i, v);
        return 1;
    }

    public long element(int peg, int i) {
        if (!pegs.has(peg) || pegs.refusalAt(peg, i) != 0) return Long.MIN_VALUE;
        return pegs.at(peg, i);
    }

    public int shift(int peg, int i, int other, int j, int n) {
        if (!pegs.has(peg) || !pegs.has(other)) return BAD;
        if (pegs.isEmpty(peg) || pegs.isEmpty(other)) return NOTHING_THERE;
        if (!pegs.isRow(peg) || !pegs.isRowOf(other, pegs.sort[peg])) return OTHER_KIND;
        if (!pegs.hasRun(peg, i, n) || !pegs.hasRun(other, j, n)) return NO_PLACE;
        pegs.copyRun(peg, i, other, j, n);
        return n;
    }

    public int taken(int peg, int k) {
        if (!pegs.has(peg) || k < 0 || k > Peaces.BROKEN) return BAD;
        if (pegs.isEmpty(peg)) return NOTHING_THERE;
        int peace = pegs.peaceOn(peg);
        if (!peaces.has(peace) || !Acts.isUnder(peaces.kind[peace], k)) return OTHER_KIND;
        return peaces.kind[peace];
    }

    public int count(int what) {
        switch (what) {
            case 0: return folk.size;
            case 1: return kinship.size;
            case 2: return feuds.size;
            case 3: return peaces.size;
            case 4: return taped;
            case 5: return history.done;
            case 6: return Long.bitCount(folk.dead);
            case 7: return acts.ran;
            default: return BAD;
        }
    }

    private static boolean isHour(int hour) {
        return hour >= 0 && hour <= LAST_HOUR;
    }

    private static boolean isBit(int v) {
        return v == 0 || v == 1;
    }

    private static boolean isSpan(int fromTo) {
        return fromTo >= 0 && fromTo / 10000 <= fromTo % 10000 && isHour(fromTo % 10000);
    }

    private static boolean isWindow(int fromTo) {
        return isSpan(fromTo) && fromTo % 10000 - fromTo / 10000 < MOST_HOURS;
    }

    private static boolean isGathering(long living, int most) {
        return living != 0 && Long.bitCount(living) <= most;
    }

    private static boolean isIn(long bits, int i) {
        return (bits >>> i & 1) != 0;
    }

    private static final class Folk {
        final int[] lord = new int[MOST_PEOPLE];
        final int[] weight = new int[MOST_PEOPLE];
        final int[] sword = new int[MOST_PEOPLE];
        final int[] road = new int[MOST_PEOPLE];
        /** Of each: itself, its lord, that one's lord and so on, as bits. */
        final long[] line = new long[MOST_PEOPLE];
        long dead = 0;
        int size = 0;

        boolean has(int person) {
            return person >= 0 && person < size;
        }

        boolean isPair(int pq) {
            return pq >= 0 && has(pq / 100) && has(pq % 100) && pq / 100 != pq % 100;
        }

        boolean isSet(long bits) {
            return bits >= 0 && bits >>> size == 0;
        }

        boolean fits(int ofLord, int ofWeight, int ofSword) {
            return (ofLord == -1 || has(ofLord)) && ofWeight >= 1 && ofWeight <= 99 && isBit(ofSword);
        }

        int come(int ofLord, int ofWeight, int ofSword) {
            lord[size] = ofLord;
            weight[size] = ofWeight;
            sword[size] = ofSword;
            line[size] = 1L << size | (ofLord < 0 ? 0 : line[ofLord]);
            return size++;
        }

        /** One without a lord shares it with nobody, but is counted itself. */
        int sharingLord(int person, long there) {
            int sharing = 0;
            for (int r = 0; r < size; r++) {
                if (isIn(there, r) && (r == person || haveOneLord(r, person))) sharing++;
            }
            return sharing;
        }

        private boolean haveOneLord(int r, int person) {
            return lord[r] >= 0 && lord[r] == lord[person];
        }
    }

    private static final class Kinship {
        static final int LOOKED_AT = 9, FAR = 99;
        private final int[] table = new int[MOST_PEOPLE * MOST_PEOPLE];
        int size = 0;

        Kinship() {
            Arrays.fill(table, FAR);
            for (int i = 0; i < MOST_PEOPLE; i++) table[i * MOST_PEOPLE + i] = 0;
        }

        int apart(int a, int b) {
            return table[a * MOST_PEOPLE + b];
        }

        /** One new tie shortens a way only by going over it once, in one direction or the other. */
        void join(int a, int b, int people) {
            size++;
            for (int i = 0; i < people; i++) {
                for (int j = 0; j < people; j++) {
                    int over = Math.min(apart(i, a) + apart(b, j), apart(i, b) + apart(a, j)) + 1;
                    if (over < apart(i, j)) table[i * MOST_PEOPLE + j] = over;
                }
            }
        }

        void become(Kinship other) {
            System.arraycopy(other.table, 0, table, 0, table.length);
            size = other.size;
        }
    }

    private static final class Feuds {
        /** Nearness and number in one int, so that the least one is the nearest, of like ones the first. */
        static final int SCALE = 64, NOT_NEAR = 9, NONE = NOT_NEAR * SCALE;
        final int[] killed = new int[MOST_FEUDS];
        final int[] killer = new int[MOST_FEUDS];
        final int[] since = new int[MOST_FEUDS];
        final int[] binding = new int[MOST_FEUDS];
        final int[] price = new int[MOST_FEUDS];
        final int[] paid = new int[MOST_FEUDS];
        /** Those that are paid in thought, as bits. */
        long settled = 0;
        int size = 0;

        int begin(int ofKilled, int ofKiller, int hour, int ofBinding, int ofPrice) {
            killed[size] = ofKilled;
            killer[size] = ofKiller;
            since[size] = hour;
            binding[size] = ofBinding;
            price[size] = ofPrice;
            paid[size] = UNPAID;
            return size++;
        }

        /** One who leaves late may leave behind the last hour: what is not paid is not paid then, either. */
        boolean isAlight(int feud, int hour) {
            return since[feud] <= hour && (paid[feud] == UNPAID || hour < paid[feud]) && (settled >>> feud & 1) == 0;
        }

        boolean turnsAt(int hour) {
            for (int i = 0; i < size; i++) {
                if (since[i] == hour || paid[i] == hour) return true;
            }
            return false;
        }

        int closeness(int feud, int p, int q, Kinship kinship) {
            int[] steps = kinship.table;
            int bound = binding[feud], closest = NOT_NEAR;
            int a = steps[p * MOST_PEOPLE + killed[feud]], b = steps[q * MOST_PEOPLE + killer[feud]];
            if (a <= bound && b <= bound) closest = a + b;
            a = steps[q * MOST_PEOPLE + killed[feud]];
            b = steps[p * MOST_PEOPLE + killer[feud]];
            return a <= bound && b <= bound && a + b < closest ? a + b : closest;
        }

        int nearest(int p, int q, int hour, Kinship kinship) {
            int least = NONE;
            for (int i = 0; i < size; i++) {
                if (isAlight(i, hour)) least = Math.min(least, closeness(i, p, q, kinship) * SCALE + i);
            }
            return least;
        }

        /** All that make two as near as they are, as bits; every bit there is, if none makes them so. */
        long nearestOnes(int p, int q, int hour, Kinship kinship) {
            int near = nearest(p, q, hour, kinship) / SCALE;
            long ones = 0;
            for (int i = 0; i < size; i++) {
                if (isAlight(i, hour) && closeness(i, p, q, kinship) == near) ones |= 1L << i;
            }
            return near < NOT_NEAR ? ones : -1;
        }

        long firstOpen(int hour, int atMost) {
            long open = 0;
            for (int i = 0; i < size && Long.bitCount(open) < atMost; i++) {
                if (paid[i] > hour) open |= 1L << i;
            }
            return open;
        }

        int priceOf(long bits) {
            int sum = 0;
            for (int i = 0; i < size; i++) {
                if (isIn(bits, i)) sum += price[i];
            }
            return sum;
        }

        int pairsAt(int hour, Kinship kinship, int people) {
            int pairs = 0;
            for (int p = 0; p < people; p++) {
                for (int q = p + 1; q < people; q++) {
                    if (nearest(p, q, hour, kinship) < NONE) pairs++;
                }
            }
            return pairs;
        }
    }

    private static final class Peaces {
        static final int PEACE = 0, HEARTH = 1, SALT = 2, ROAD = 3, BOUGHT = 4, KING = 5, BROKEN = 6;
        final int[] kind = new int[MOST_PEACES];
        final int[] giver = new int[MOST_PEACES];
        final int[] first = new int[MOST_PEACES];
        final int[] last = new int[MOST_PEACES];
        final int[] behind = new int[MOST_PEACES];
        /** The last hour, and of salt those behind it: of a broken one, too, as it may become salt again. */
        private final int[] until = new int[MOST_PEACES];
        final long[] covers = new long[MOST_PEACES];
        int size = 0;

        boolean has(int peace) {
            return peace >= 0 && peace < size;
        }

        int begin(int ofGiver, int ofKind, long ofCovers, int from, int ofBehind) {
            kind[size] = ofKind;
            giver[size] = ofGiver;
            first[size] = from / 10000;
            last[size] = from % 10000;
            behind[size] = ofBehind;
            until[size] = last[size] + (ofKind == SALT ? ofBehind : 0);
            covers[size] = ofCovers;
            return size++;
        }

        boolean standsAt(int peace, int hour) {
            return first[peace] <= hour && hour <= until[peace];
        }

        boolean turnsAt(int hour) {
            for (int i = 0; i < size; i++) {
                if (first[i] == hour || until[i] + 1 == hour) return true;
            }
            return false;
        }

        boolean reaches(int peace, int p, int q, Folk folk) {
            long both = 1L << p | 1L << q, host = 1L << giver[peace], guests = covers[peace];
            switch (kind[peace]) {
                case PEACE: return (folk.line[p] & folk.line[q] & host) != 0;
                case HEARTH:
                case SALT: return ((guests | host) & both) == both;
                case ROAD: return (guests & both) != 0;
                case BOUGHT: return (guests & both) == both;
                case KING: return true;
                default: return false;
            }
        }

        long holding(int p, int q, int hour, Folk folk) {
            long holding = 0;
            for (int i = 0; i < size; i++) {
                if (standsAt(i, hour) && reaches(i, p, q, folk)) holding |= 1L << i;
            }
            return holding;
        }

        /** Those that one can break: as the giver, or as one covered. */
        long bindingOn(int person) {
            long bound = 0;
            for (int i = 0; i < size; i++) {
                if (giver[i] == person || isIn(covers[i], person)) bound |= 1L << i;
            }
            return bound;
        }
    }

    /** A text of lines, read into steps in the order in which they are worked out. */
    private static final class Custom {
        static final int F = 0, N = 1, C = 2, W = 3, V = 4, L = 5, K = 6, O = 7, D = 8, NAMES = 9;
        private static final String NAME_SIGNS = "fncwvlkod";
        private static final int OPERAND = 5, COMPARISON = 2, MOST_OPEN = 6, MOST_DIGITS = 4;
        /** Steps are signs of the text with an argument; these three have no sign of their own there. */
        private static final int NUMBER = '0', NAME = 'a', MINUS = '~';
        private static final int ARGUMENT = 16;

        private final int[] text = new int[MOST_TAPE];
        private final int[] code = new int[MOST_TAPE + 2];
        private final int[] stack = new int[MOST_TAPE];
        private int length = 0, at = 0, size = 0, named = 0;
        private boolean stuck = false;

        Custom(String lines) {
            length = Math.min(lines.length(), text.length);
            for (int i = 0; i < length; i++) text[i] = lines.charAt(i);
            readLines();
        }

        boolean asks(int name) {
            return isIn(named, name);
        }

        /** -1, or the place of the first sign with which no text goes on. */
        int read(int[] signs, int ofLength) {
            length = Math.min(Math.min(ofLength, signs.length), text.length);
            System.arraycopy(signs, 0, text, 0, length);
            return readLines();
        }

        private int readLines() {
            at = 0;
            size = 0;
            named = 0;
            stuck = false;
            for (int lines = 0; lines <= MOST_TAPE && !stuck; lines++) {
                readLine();
                if (stuck || at >= length) break;
                pass(';');
            }
            return stuck ? at : -1;
        }

        private void readLine() {
            readPart(0, 0);
            if (stuck || next() != '?') {
                emit(';', 0);
                return;
            }
            at++;
            int test = emit('?', 0);
            readPart(0, 0);
            emit(';', 0);
            code[test] = '?' << ARGUMENT | size;
        }

        /** Levels bind the closer the higher they are: | and & and < = > and + - and * / % and operands. */
        private void readPart(int level, int open) {
            if (level >= OPERAND) {
                readOperand(open);
                return;
            }
            readPart(level + 1, open);
            for (int i = 0; i < MOST_TAPE && !stuck && levelOf(next()) == level; i++) {
                int sign = next();
                at++;
                readPart(level + 1, open);
                emit(sign, 0);
                if (level == COMPARISON) break;
            }
        }

        private void readOperand(int open) {
            int sign = next();
            if (stuck) return;
            if (isDigit(sign)) {
                readNumber();
            } else if (sign >= 0 && NAME_SIGNS.indexOf((char) sign) >= 0) {
                at++;
                int name = NAME_SIGNS.indexOf((char) sign);
                named |= 1 << name;
                emit(NAME, name);
            } else if (open < MOST_OPEN && sign == '(') {
                at++;
                readPart(0, open + 1);
                pass(')');
            } else if (open < MOST_OPEN && (sign == '!' || sign == '-')) {
                at++;
                readOperand(open + 1);
                emit(sign == '!' ? '!' : MINUS, 0);
            } else {
                stuck = true;
            }
        }

        private void readNumber() {
            int number = 0;
            for (int i = 0; i < MOST_DIGITS && isDigit(next()); i++) {
                number = number * 10 + next() - '0';
                at++;
            }
            emit(NUMBER, number);
        }

        private void pass(int sign) {
            if (stuck || next() != sign) stuck = true;
            else at++;
        }

        private int next() {
            return at < length ? text[at] : -1;
        }

        private int emit(int step, int argument) {
            if (size >= code.length) return 0;
            code[size] = step << ARGUMENT | argument;
            return size++;
        }

        private static boolean isDigit(int sign) {
            return sign >= '0' && sign <= '9';
        }

        private static int levelOf(int sign) {
            switch (sign) {
                case '|': return 0;
                case '&': return 1;
                case '<':
                case '=':
                case '>': return COMPARISON;
                case '+':
                case '-': return 3;
                case '*':
                case '/':
                case '%': return 4;
                default: return -1;
            }
        }

        int worth(int[] names) {
            int top = 0;
            for (int i = 0; i < size; i++) {
                int step = code[i] >>> ARGUMENT, argument = code[i] & (1 << ARGUMENT) - 1;
                if (step == NUMBER || step == NAME) {
                    if (top >= stack.length) return 0;
                    stack[top++] = step == NUMBER ? argument : argument < names.length ? names[argument] : 0;
                    continue;
                }
                // a text that was read without a fault has what each step takes
                if (top < 1) return 0;
                int right = stack[top - 1];
                if (step == ';') return right;
                if (step == '?') {
                    top--;
                    if (right == 0) i = Math.max(i, argument - 1);
                } else if (step == '!') {
                    stack[top - 1] = right == 0 ? 1 : 0;
                } else if (step == MINUS) {
                    stack[top - 1] = -right;
                } else {
                    if (top < 2) return 0;
                    top--;
                    stack[top - 1] = joined(step, stack[top - 1], right);
                }
            }
            return 0;
        }

        private static int joined(int sign, int left, int right) {
            switch (sign) {
                case '|': return left != 0 || right != 0 ? 1 : 0;
                case '&': return left != 0 && right != 0 ? 1 : 0;
                case '<': return left < right ? 1 : 0;
                case '=': return left == right ? 1 : 0;
                case '>': return left > right ? 1 : 0;
                case '+': return left + right;
                case '-': return left - right;
                case '*': return left * right;
                case '/': return right == 0 ? 0 : left / right;
                case '%': return right == 0 ? 0 : left % right;
                default: return 0;
            }
        }
    }

    /** All as it is at one hour; what has been worked out for a pair is kept till the next opening. */
    private static final class Moment {
        static final int NOBODY = -1;
        private static final int PAIRS = MOST_PEOPLE * (MOST_PEOPLE - 1) / 2;
        final Folk folk;
        final Kinship kinship;
        final Feuds feuds;
        final Peaces peaces;
        private final Custom[] customs;
        private final int[] names = new int[Custom.NAMES];
        private final int[] nearKeys = new int[PAIRS];
        private final int[] nearStamps = new int[PAIRS];
        private final long[] heldBits = new long[PAIRS];
        private final int[] heldStamps = new int[PAIRS];
        /** Peaces broken in the telling that goes on, and in no other. */
        long broken = 0;
        private int hour = 0;
        private int stamp = 0;

        Moment(Folk folk, Kinship kinship, Feuds feuds, Peaces peaces, Custom[] customs) {
            this.folk = folk;
            this.kinship = kinship;
            this.feuds = feuds;
            this.peaces = peaces;
            this.customs = customs;
        }

        void open(int atHour) {
            hour = atHour;
            stamp++;
        }

        /** Customs know no hour but through feuds and peaces: where none begins or ends, all is as an hour ago. */
        boolean turnsAt(int atHour) {
            return feuds.turnsAt(atHour) || peaces.turnsAt(atHour);
        }

        private static int cell(int p, int q) {
            int low = Math.min(p, q), high = Math.max(p, q);
            return high * (high - 1) / 2 + low;
        }

        int nearKey(int p, int q) {
            int cell = cell(p, q);
            if (nearStamps[cell] != stamp) {
                nearStamps[cell] = stamp;
                nearKeys[cell] = feuds.nearest(p, q, hour, kinship);
            }
            return nearKeys[cell];
        }

        long held(int p, int q) {
            int cell = cell(p, q);
            if (heldStamps[cell] != stamp) {
                heldStamps[cell] = stamp;
                heldBits[cell] = peaces.holding(p, q, hour, folk);
            }
            return heldBits[cell] & ~broken;
        }

        /** What a custom gives for two, and for one who was struck, where it is of use. */
        int weigh(int use, int p, int q, int struck, long there) {
            Custom custom = customs[use];
            if (custom.asks(Custom.F) || custom.asks(Custom.N)) {
                int near = nearKey(p, q) / Feuds.SCALE;
                names[Custom.F] = near < Feuds.NOT_NEAR ? 1 : 0;
                names[Custom.N] = near;
            }
            if (custom.asks(Custom.C)) names[Custom.C] = Long.bitCount(held(p, q));
            if (custom.asks(Custom.O)) names[Custom.O] = folk.sharingLord(p, there);
            names[Custom.W] = folk.sword[p];
            names[Custom.V] = folk.sword[q];
            names[Custom.L] = isIn(folk.line[p], q) ? 1 : 0;
            names[Custom.K] = Math.min(kinship.apart(p, q), Kinship.LOOKED_AT);
            names[Custom.D] = struck == NOBODY ? 0 : Math.min(kinship.apart(p, struck), Kinship.LOOKED_AT);
            return custom.worth(names);
        }

        int firstStrike(long there) {
            for (int p = 0; p < folk.size; p++) {
                if (!isIn(there, p)) continue;
                for (int q = 0; q < folk.size; q++) {
                    if (p != q && isIn(there, q) && weigh(MUST, p, q, NOBODY, there) != 0) return 100 * p + q;
                }
            }
            return -1;
        }

        boolean mustAlone(int p, int q) {
            return weigh(MUST, p, q, NOBODY, 1L << p | 1L << q) != 0;
        }

        boolean barred(int p, int q, int from, int to) {
            for (int h = from; h <= to; h++) {
                if (h > from && !turnsAt(h)) continue;
                open(h);
                if (mustAlone(p, q) || mustAlone(q, p)) return true;
            }
            return false;
        }
    }

    /** Told people, by their places among themselves. */
    private static final class Guests {
        private static final int MOST_BOUGHT = 10;
        private final Moment moment;
        private final int[] list = new int[MOST_TOLD];
        private int size = 0;
        /** Of each place the places that it bars. */
        private final int[] barring = new int[MOST_TOLD];
        private final int[] heaviestWithin = new int[1 << MOST_TOLD];
        /** Of each turn and place the places that it would meet, if it left then and close behind. */
        private final int[] meeting = new int[MOST_LEAVING * MOST_LEAVING];
        private final int[] order = new int[MOST_LEAVING];
        private int reach = 0;

        Guests(Moment moment) {
            this.moment = moment;
        }

        void gather(long told) {
            size = 0;
            for (int i = 0; i < MOST_PEOPLE && size < list.length; i++) {
                if (isIn(told, i)) list[size++] = i;
            }
        }

        void learnBars(int from, int to) {
            Arrays.fill(barring, 0);
            for (int i = 0; i < size; i++) {
                for (int j = i + 1; j < size; j++) {
                    if (!moment.barred(list[i], list[j], from, to)) continue;
                    barring[i] |= 1 << j;
                    barring[j] |= 1 << i;
                }
            }
        }

        private int weightAt(int place) {
            return moment.folk.weight[list[place]];
        }

        /** The weight of a set of places, or -1 if two of them bar one another. */
        private int calmWeight(int set) {
            int weight = 0;
            for (int i = 0; i < size; i++) {
                if (!isIn(set, i)) continue;
                if ((barring[i] & set) != 0) return -1;
                weight += weightAt(i);
            }
            return weight;
        }

        private long asPeople(int set) {
            long bits = 0;
            for (int i = 0; i < size; i++) {
                if (isIn(set, i)) bits |= 1L << list[i];
            }
            return bits;
        }

        long heaviest(long needed) {
            int need = 0;
            for (int i = 0; i < size; i++) {
                if (isIn(needed, list[i])) need |= 1 << i;
            }
            int best = -1, most = -1;
            for (int set = 0; set < 1 << size; set++) {
                if ((set & need) != need) continue;
                int weight = calmWeight(set);
                if (weight < 0 || weight < most) continue;
                // sets come from the least on, so a like one must have more people to count
                if (weight == most && Integer.bitCount(set) <= Integer.bitCount(best)) continue;
                best = set;
                most = weight;
            }
            return best < 0 ? NOT : asPeople(best);
        }

        long twoRooms(int what) {
            fillHeaviestWithin();
            int all = (1 << size) - 1, best = 0, most = -1, first = -1;
            for (int set = 0; set <= all; set++) {
                int weight = calmWeight(set);
                if (weight < 0) continue;
                int both = weight + heaviestWithin[all & ~set];
                if (both < most || both == most && weight <= first) continue;
                best = set;
                most = both;
                first = weight;
            }
            return what == 0 ? most : asPeople(best);
        }

        private void fillHeaviestWithin() {
            heaviestWithin[0] = 0;
            for (int set = 1; set < 1 << size; set++) {
                int low = Integer.numberOfTrailingZeros(set), rest = set & set - 1;
                heaviestWithin[set] = Math.max(heaviestWithin[rest], weightAt(low) + heaviestWithin[rest & ~barring[low]]);
            }
        }

        /** A pair that bars does so until all of its nearest feuds are paid: every set that will do has those in it. */
        long payOff(int from, int to, int what) {
            Feuds feuds = moment.feuds;
            long payable = feuds.firstOpen(from, MOST_BOUGHT), paid = 0;
            for (int round = 0; round <= MOST_BOUGHT; round++) {
                feuds.settled = paid;
                long pressing = pressingFeuds(from, to);
                feuds.settled = 0;
                if (pressing == 0) return what == 0 ? feuds.priceOf(paid) : paid;
                if ((pressing & ~payable) != 0) return NOT;
                paid |= pressing;
            }
            return NOT;
        }

        /** The nearest feuds of the first pair that bars, as bits; 0: none does. */
        private long pressingFeuds(int from, int to) {
            for (int hour = from; hour <= to; hour++) {
                if (hour > from && !moment.turnsAt(hour)) continue;
                moment.open(hour);
                for (int i = 0; i < size; i++) {
                    for (int j = 0; j < size; j++) {
                        if (i != j && moment.mustAlone(list[i], list[j])) {
                            return moment.feuds.nearestOnes(list[i], list[j], hour, moment.kinship);
                        }
                    }
                }
            }
            return 0;
        }

        void learnMeetings(int hour, int start, int fast) {
            reach = start < 1 ? 0 : fast / start;
            Arrays.fill(meeting, 0);
            for (int turn = 0; turn < size; turn++) {
                moment.open(hour + turn * start);
                for (int i = 0; i < size; i++) {
                    for (int j = 0; j < size; j++) {
                        if (i != j && clash(list[i], list[j])) meeting[turn * MOST_LEAVING + i] |= 1 << j;
                    }
                }
            }
        }

        private boolean clash(int p, int q) {
            return moment.folk.road[p] == moment.folk.road[q] && moment.nearKey(p, q) < Feuds.NONE && moment.held(p, q) == 0;
        }

        int firstOrder() {
            return depart(0, 0, 0);
        }

        /** The first order in which the rest can leave behind those who have their turns, all as digits; or NOT. */
        private int depart(int turn, int gone, int digits) {
            if (turn >= size || turn >= MOST_LEAVING) return digits;
            for (int i = 0; i < size; i++) {
                if (isIn(gone, i) || meetsEarlier(turn, i)) continue;
                order[turn] = i;
                int whole = depart(turn + 1, gone | 1 << i, 10 * digits + i + 1);
                if (whole != NOT) return whole;
            }
            return NOT;
        }

        private boolean meetsEarlier(int turn, int place) {
            for (int earlier = Math.max(0, turn - reach); earlier < turn; earlier++) {
                if (isIn(meeting[turn * MOST_LEAVING + place], order[earlier])) return true;
            }
            return false;
        }
    }

    /** One first blow and what comes of it. */
    private static final class Telling {
        private static final int MOST_BLOWS = 31;
        private final Moment moment;
        final int[] row = new int[MOST_BLOWS];
        int blows = 0;
        long left = 0;
        /** Peaces broken, in the order in which they were. */
        final int[] broken = new int[MOST_PEACES];
        int breaks = 0;
        private long strikers = 0;

        Telling(Moment moment) {
            this.moment = moment;
        }

        void tell(int p, int q, long there) {
            left = there;
            blows = 0;
            breaks = 0;
            strikers = 0;
            land(p, q);
            for (int i = 1; i < MOST_BLOWS; i++) {
                int next = firstHelp();
                if (next < 0) next = moment.firstStrike(left);
                if (next < 0) break;
                land(next / 100, next % 100);
            }
            moment.broken = 0;
        }

        private void land(int striker, int struck) {
            if (blows >= row.length) return;
            row[blows++] = 100 * striker + struck;
            strikers |= 1L << striker;
            left &= ~(1L << struck);
            long breaking = moment.held(striker, struck) & moment.peaces.bindingOn(striker);
            for (int i = 0; i < MOST_PEACES && breaks < broken.length; i++) {
                if (isIn(breaking, i)) broken[breaks++] = i;
            }
            moment.broken |= breaking;
        }

        private int firstHelp() {
            for (int r = 0; r < moment.folk.size; r++) {
                for (int s = 0; s < moment.folk.size; s++) {
                    if (r == s || !isIn(left, r) || !isIn(left & strikers, s)) continue;
                    for (int i = 0; i < blows; i++) {
                        // one who struck more than once is struck for any of those blows
                        if (row[i] / 100 != s) continue;
                        if (moment.weigh(HELPS, r, s, row[i] % 100, left) != 0) return 100 * r + s;
                    }
                }
            }
            return -1;
        }
    }

    /** Changes that can be undone and done again, the earliest first. */
    private static final class History {
        static final int PAID = 0, COVERS = 1, SWORD = 2, KIND = 3;
        private static final int KEPT = 40;
        private final Folk folk;
        private final Feuds feuds;
        private final Peaces peaces;
        private final int[] sort = new int[KEPT];
        private final int[] place = new int[KEPT];
        private final int[] before = new int[KEPT];
        private final int[] after = new int[KEPT];
        int done = 0;
        private int known = 0;

        History(Folk folk, Feuds feuds, Peaces peaces) {
            this.folk = folk;
            this.feuds = feuds;
            this.peaces = peaces;
        }

        /** Sets what is told and answers what it was. */
        int change(int ofSort, int ofPlace, int v) {
            int was = told(ofSort, ofPlace);
            if (was == v) return was;
            if (done >= KEPT) forgetFirst();
            sort[done] = ofSort;
            place[done] = ofPlace;
            before[done] = was;
            after[done] = v;
            done++;
            known = done;
            set(ofSort, ofPlace, v);
            return was;
        }

        private void forgetFirst() {
            System.arraycopy(sort, 1, sort, 0, KEPT - 1);
            System.arraycopy(place, 1, place, 0, KEPT - 1);
            System.arraycopy(before, 1, before, 0, KEPT - 1);
            System.arraycopy(after, 1, after, 0, KEPT - 1);
            done = KEPT - 1;
        }

        int back() {
            if (done <= 0) return STATE;
            done--;
            set(sort[done], place[done], before[done]);
            return done;
        }

        int again() {
            if (done >= known || done >= KEPT) return STATE;
            set(sort[done], place[done], after[done]);
            done++;
            return known - done;
        }

        private int told(int ofSort, int at) {
            switch (ofSort) {
                case PAID: return feuds.paid[at];
                case COVERS: return isIn(peaces.covers[at / MOST_PEOPLE], at % MOST_PEOPLE) ? 1 : 0;
                case SWORD: return folk.sword[at];
                default: return peaces.kind[at];
            }
        }

        private void set(int ofSort, int at, int v) {
            switch (ofSort) {
                case PAID: feuds.paid[at] = v; break;
                case COVERS:
                    long bit = 1L << at % MOST_PEOPLE;
                    if (v == 1) peaces.covers[at / MOST_PEOPLE] |= bit;
                    else peaces.covers[at / MOST_PEOPLE] &= ~bit;
                    break;
                case SWORD: folk.sword[at] = v; break;
                default: peaces.kind[at] = v; break;
            }
        }
    }

    /** Which body runs for an act of a kind, and what it gives. */
    private static final class Acts {
        static final int SORTS = 4;
        private static final int HOLDS = 0, COVERS = 1, ENDS = 2, TELLS = 3;
        private static final int DEEPEST = 40;
        private static final int[] ABOVE = {-1, 0, 1, 0, 0, 4, 0};
        /** Of each kind its own bodies of holds, covers, ends, tells; 0: the kind above is asked. */
        private static final int[] BODIES = {
            1, 10, 11, 2,
            20, 0, 0, 0,
            31, 0, 30, 0,
            0, 40, 0, 0,
            0, 0, 0, 50,
            60, 0, 0, 0,
            0, 71, 70, 0};
        final int[] kept = new int[24];
        int ran = 0;

        static boolean isUnder(int kind, int top) {
            int at = kind;
            for (int i = 0; i < ABOVE.length && at >= 0 && at < ABOVE.length; i++) {
                if (at == top) return true;
                at = ABOVE[at];
            }
            return false;
        }

        void forget() {
            ran = 0;
        }

        int start(int kind, int act, int x, int n) {
            return run(kind, act, x, n, 0);
        }

        /** Runs an act of peace n as its own kind has it. */
        private int run(int kind, int act, int x, int n, int depth) {
            return runFrom(kind, kind, act, x, n, depth);
        }

        /** Looks for the body from a kind on upward. */
        private int runFrom(int from, int kind, int act, int x, int n, int depth) {
            int at = from;
            for (int i = 0; i < ABOVE.length && at >= 0 && at < ABOVE.length; i++) {
                int body = BODIES[at * SORTS + act];
                if (body != 0) return depth > DEEPEST ? 0 : begin(body, at, kind, x, n, depth + 1);
                at = ABOVE[at];
            }
            return 0;
        }

        private int begin(int body, int at, int kind, int x, int n, int depth) {
            if (ran < kept.length) kept[ran] = body;
            ran++;
            int up = ABOVE[at];
            switch (body) {
                case 1: return x + n;
                case 2: return run(kind, COVERS, x, n, depth) - run(kind, ENDS, 1, n, depth);
                case 10: return run(kind, HOLDS, x, n, depth) * 2;
                case 11: return x ^ n;
                case 20: return runFrom(up, kind, HOLDS, x, n, depth) + 3;
                case 30: return runFrom(up, kind, ENDS, x, n, depth) * 3;
                case 31: return runFrom(up, kind, HOLDS, x + 1, n, depth);
                case 40: return -runFrom(up, kind, COVERS, x, n, depth);
                case 50: return runFrom(up, kind, TELLS, x, n, depth) ^ 5;
                case 60: return runFrom(up, kind, HOLDS, x, n, depth) - run(kind, ENDS, 2, n, depth);
                case 70: return runFrom(up, kind, ENDS, x, n, depth) + run(kind, HOLDS, 1, n, depth);
                case 71: return runFrom(up, kind, COVERS, x, n, depth) * 2;
                default: return 0;
            }
        }
    }

    private static final class Pegs {
        static final int BYTES = 0, SORTS = 5, LONGEST = 60;
        private static final int SHORTS = 1, INTS = 2, LONGS = 3, PEACE = 5, NOTHING = 6, PEGS = 6;
        final int[] sort = {NOTHING, NOTHING, NOTHING, NOTHING, NOTHING, NOTHING};
        /** How long the row is; of a peg that holds none 0. */
        final int[] length = new int[PEGS];
        private final int[] number = new int[PEGS];
        private final long[] cells = new long[PEGS * LONGEST];

        boolean has(int peg) {
            return peg >= 0 && peg < PEGS;
        }

        boolean isEmpty(int peg) {
            return sort[peg] == NOTHING;
        }

        boolean isRow(int peg) {
            return sort[peg] < SORTS;
        }

        boolean isRowOf(int peg, int ofSort) {
            return isRow(peg) && sort[peg] == ofSort;
        }

        /** -1 where no peace hangs. */
        int peaceOn(int peg) {
            return sort[peg] == PEACE ? number[peg] : -1;
        }

        void hang(int peg, int peace) {
            sort[peg] = peace < 0 ? NOTHING : PEACE;
            number[peg] = peace;
            length[peg] = 0;
        }

        void hangRow(int peg, int ofSort, int n) {
            sort[peg] = ofSort;
            length[peg] = n;
            for (int i = 0; i < n; i++) cells[peg * LONGEST + i] = 0;
        }

        int refusalAt(int peg, int i) {
            if (isEmpty(peg)) return NOTHING_THERE;
            if (!isRow(peg)) return OTHER_KIND;
            return i < 0 || i >= length[peg] ? NO_PLACE : 0;
        }

        long at(int peg, int i) {
            return cells[peg * LONGEST + i];
        }

        void store(int peg, int i, long v) {
            cells[peg * LONGEST + i] = narrowed(sort[peg], v);
        }

        private static long narrowed(int sort, long v) {
            switch (sort) {
                case BYTES: return (byte) v;
                case SHORTS: return (short) v;
                case INTS: return (int) v;
                case LONGS: return v;
                default: return v != 0 ? 1 : 0;
            }
        }

        boolean hasRun(int peg, int i, int n) {
            return i >= 0 && n >= 0 && n <= length[peg] && i <= length[peg] - n;
        }

        void copyRun(int peg, int i, int other, int j, int n) {
            System.arraycopy(cells, peg * LONGEST + i, cells, other * LONGEST + j, n);
        }
    }
}
