import java.util.Arrays;

/**
 * Tubes that carry the court: desks, tubes and capsules, their ways, what can be
 * asked of them, plans, days and months. Answers below 0 that the document calls
 * refusals are counted; nothing else changes then.
 */
public final class TubesOfCourt {
    public static final int NONE = -1;

    private static final int MOST_DESKS = 8;
    private static final int MOST_TUBES = 16;
    private static final int MOST_CAPSULES = 5;
    private static final int MOST_SHELVES = 8;
    private static final int MOST_ELEMENTS = 160;
    private static final int MOST_SIGNED = 999;
    private static final int MOST_MINUTES = 500;
    private static final int MOST_STAY = 60;
    private static final int MOST_LEGS = 40;
    private static final int MOST_DRAWN_LEGS = 60;
    private static final int MOST_KNOCKS = 8;
    private static final int LAST_KNOCK = 999;
    private static final int MOST_TRACED = 20;

    // Every real way is far below this, and the document counts a missing one so.
    private static final int FAR = 9999;

    private static final int KINDS = 7;
    private static final int KING = 1;
    private static final int RIVAL = 2;
    private static final int MINISTER = 3;
    private static final int QUEEN = 4;
    private static final int CAT = 5;
    private static final int DENTED = 6;
    private static final int[] KIND_ABOVE = {-1, 0, 1, 0, 3, 0, 2};

    private static final int SORTS = 4;
    private static final int ROW_HELD = 100;

    private static final int NOBODY = -1;
    private static final int OTHER = -2;
    private static final int NOTHING = -3;
    private static final int BELOW = -4;
    private static final int BEYOND = -5;
    private static final int WRONG = -6;
    private static final int ROOM = -7;
    private static final int REFUSALS = 7;
    // Calls to which a small negative number is an answer refuse by 10 less.
    private static final int FARTHER = -10;

    private final Ministry ministry = new Ministry();
    private final Ministry kept = new Ministry();
    private final Ministry draft = new Ministry();
    private final Shelves shelves = new Shelves();
    private final Ways ways = new Ways();
    private final Rounds rounds = new Rounds();
    private final Cuts cuts = new Cuts();
    private final Knocks knocks = new Knocks();
    private final Joining joining = new Joining();
    private final PlanReader reader = new PlanReader();
    private final Days days = new Days();
    private final Moves moves = new Moves();
    private final int[] refusals = new int[REFUSALS + 1];
    private boolean imageTaken = false;
    private int latestFault = NONE;

    public TubesOfCourt() {
    }

    // ---- shelves ----

    public int row(int s, int sort, int n) {
        if (!shelves.hasShelf(s)) {
            return refuse(NOBODY);
        }
        if (n < 0) {
            return refuse(BELOW);
        }
        if (sort < 0 || sort >= SORTS) {
            return refuse(WRONG);
        }
        if (n > MOST_ELEMENTS) {
            return refuse(ROOM);
        }
        shelves.putRow(s, sort, n);
        return 1;
    }

    public int set(int s, int i, long v) {
        int refusal = rowRefusal(s);
        if (refusal < 0) {
            return refuse(refusal);
        }
        if (i < 0 || i >= shelves.sizeOf(s)) {
            return refuse(BEYOND);
        }
        shelves.putElement(s, i, v);
        return 1;
    }

    public int copy(int p, int q, int i, int j, int n) {
        int refusal = copyRefusal(p, q);
        if (refusal < 0) {
            return refuse(refusal);
        }
        if (n < 0) {
            return refuse(BELOW);
        }
        if (!shelves.hasPart(p, i, n) || !shelves.hasPart(q, j, n)) {
            return refuse(BEYOND);
        }
        shelves.copyPart(p, q, i, j, n);
        return 1;
    }

    public long element(int s, int i) {
        return shelves.elementAt(s, i);
    }

    public int show(int s, int capsule) {
        if (!shelves.hasShelf(s) || (capsule != NONE && !ministry.hasCapsule(capsule))) {
            return refuse(NOBODY);
        }
        shelves.putHeld(s, capsule);
        return capsule == NONE ? 0 : 1;
    }

    public int holds(int s) {
        return shelves.heldAt(s);
    }

    public int says(int s, int kind) {
        if (!shelves.hasShelf(s) || kind < 0 || kind >= KINDS) {
            return refuse(NOBODY);
        }
        int held = shelves.heldAt(s);
        if (held == NONE) {
            return refuse(NOTHING);
        }
        if (!ministry.hasCapsule(held) || !isUnder(ministry.kind[held], kind)) {
            return refuse(OTHER);
        }
        switch (kind) {
            case KING:
            case RIVAL:
            case DENTED:
                return ministry.weight[held];
            case MINISTER:
            case QUEEN:
                return ministry.a[held];
            case CAT:
                return ministry.tubes;
            default:
                return ministry.at[held];
        }
    }

    // ---- the ministry ----

    public int desk() {
        if (!ministry.hasRoomForDesk()) {
            return refuse(ROOM);
        }
        ministry.addDesk();
        return ministry.desks - 1;
    }

    public int tube(int from, int to, int length, int bore) {
        if (!ministry.hasDesk(from) || !ministry.hasDesk(to)) {
            return refuse(NOBODY);
        }
        if (from == to || !isOneToNine(length) || !isOneToNine(bore)) {
            return refuse(WRONG);
        }
        if (!ministry.hasRoomForTube()) {
            return refuse(ROOM);
        }
        ministry.addTube(from, to, length, bore);
        return ministry.tubes - 1;
    }

    public int capsule(int kind, int a, int weight, int at) {
        if (kind < 0 || kind >= KINDS || !ministry.hasDesk(at)) {
            return refuse(NOBODY);
        }
        if (a < 0 || a > 9 || !isOneToNine(weight)) {
            return refuse(WRONG);
        }
        if (!ministry.hasRoomForCapsule()) {
            return refuse(ROOM);
        }
        ministry.addCapsule(kind, a, weight, at);
        return ministry.capsules - 1;
    }

    public int shut(int tube, boolean is) {
        if (!ministry.hasTube(tube)) {
            return refuse(NOBODY);
        }
        boolean was = ministry.isShut(tube);
        ministry.putShut(tube, is);
        return was ? 1 : 0;
    }

    public int ask(int v) {
        if (!isOneToNine(v)) {
            return refuse(WRONG);
        }
        int was = ministry.pressure;
        ministry.pressure = v;
        return was;
    }

    public int capsuleOf(int capsule, int what) {
        if (!ministry.hasCapsule(capsule)) {
            return refuse(BEYOND);
        }
        switch (what) {
            case 0:
                return ministry.kind[capsule];
            case 1:
                return ministry.a[capsule];
            case 2:
                return ministry.weight[capsule];
            case 3:
                return ministry.at[capsule];
            default:
                return refuse(BEYOND);
        }
    }

    public int tubeOf(int tube, int what) {
        if (!ministry.hasTube(tube)) {
            return refuse(BEYOND);
        }
        switch (what) {
            case 0:
                return ministry.from[tube];
            case 1:
                return ministry.to[tube];
            case 2:
                return ministry.length[tube];
            case 3:
                return ministry.bore[tube];
            case 4:
                return ministry.isShut(tube) ? 1 : 0;
            default:
                return refuse(BEYOND);
        }
    }

    public int signed(int desk) {
        if (!ministry.hasDesk(desk)) {
            return refuse(BEYOND);
        }
        return ministry.signed[desk];
    }

    // ---- plans ----

    public int plan(int s) {
        int refusal = rowRefusal(s);
        if (refusal < 0) {
            return refuse(refusal);
        }
        draft.takeOver(ministry);
        latestFault = reader.findFault(shelves, s, draft);
        if (latestFault != NONE) {
            return refuse(WRONG);
        }
        ministry.takeOver(draft);
        return reader.items;
    }

    public int fault() {
        return latestFault;
    }

    // ---- going ----

    public int time(int capsule, int tube) {
        if (!ministry.hasCapsule(capsule) || !ministry.hasTube(tube)) {
            return refuse(NOBODY);
        }
        return ministry.minutesThrough(capsule, tube, ministry.pressure);
    }

    public int way(int capsule, int desk, int what) {
        if (!ministry.hasCapsule(capsule) || !ministry.hasDesk(desk)) {
            return refuse(FARTHER + NOBODY);
        }
        switch (what) {
            case 0:
                return ways.minutesTo(ministry, capsule, desk, ministry.pressure);
            case 1:
                return ways.firstTubeTo(ministry, capsule, desk);
            case 2:
                return ways.stepsTo(ministry, capsule, desk);
            default:
                return refuse(FARTHER + BEYOND);
        }
    }

    public int within(int capsule, int m) {
        if (!ministry.hasCapsule(capsule)) {
            return refuse(NOBODY);
        }
        if (m < NONE || m > MOST_MINUTES) {
            return refuse(WRONG);
        }
        ways.prepareFor(ministry, capsule, ministry.pressure);
        if (m == NONE) {
            return ways.passableTubes(ministry);
        }
        ways.spread(ministry, ministry.at[capsule]);
        return ways.desksWithin(ministry, m);
    }

    // ---- what comes of it ----

    public int round(int capsule, int desks, int s, int i) {
        if (!ministry.hasCapsule(capsule)) {
            return refuse(FARTHER + NOBODY);
        }
        boolean desksMayBe = desks > 0 && desks >> ministry.desks == 0;
        if (desksMayBe && (i < NONE || i >= Integer.bitCount(desks))) {
            return refuse(FARTHER + BEYOND);
        }
        if (!desksMayBe || s < 0 || s > MOST_STAY) {
            return refuse(FARTHER + WRONG);
        }
        ways.prepareFor(ministry, capsule, ministry.pressure);
        ways.fillTable(ministry);
        int start = ministry.at[capsule];
        int least = rounds.leastMinutes(ways, start, desks, s);
        if (least == FAR) {
            return NONE;
        }
        return i == NONE ? least : rounds.deskOfOrder(ways, start, desks, s, i);
    }

    public int meet(int one, int other, int what) {
        if (!ministry.hasCapsule(one) || !ministry.hasCapsule(other) || one == other) {
            return refuse(FARTHER + NOBODY);
        }
        if (what != 0 && what != 1) {
            return refuse(FARTHER + BEYOND);
        }
        ways.prepareFor(ministry, one, ministry.pressure);
        ways.spread(ministry, ministry.at[one]);
        ways.keepReach();
        ways.prepareFor(ministry, other, ministry.pressure);
        ways.spread(ministry, ministry.at[other]);
        int best = ways.deskToMeet(ministry);
        if (best == NONE || what == 0) {
            return best;
        }
        return ways.laterAt(best);
    }

    public int cut(int capsule, int desk, int what) {
        if (!ministry.hasCapsule(capsule) || !ministry.hasDesk(desk)) {
            return refuse(FARTHER + NOBODY);
        }
        if (what != 0 && what != 1) {
            return refuse(FARTHER + BEYOND);
        }
        int start = ministry.at[capsule];
        if (start == desk) {
            return refuse(FARTHER + WRONG);
        }
        ways.prepareFor(ministry, capsule, ministry.pressure);
        if (!cuts.reaches(ministry, ways, start, desk, NONE)) {
            return 0;
        }
        if (ministry.kind[capsule] == CAT) {
            return what == 0 ? NONE : 0;
        }
        return what == 0 ? cuts.fewestTubes(ministry, ways, start, desk)
            : cuts.neededTubes(ministry, ways, start, desk);
    }

    public int stuck(int s, int n) {
        int refusal = knocksRefusal(s, n);
        if (refusal < 0) {
            return refuse(refusal);
        }
        knocks.read(shelves, s, n);
        knocks.hear(ministry, ways);
        return knocks.fittingTubes(ministry);
    }

    public int listen(int s, int n) {
        int refusal = knocksRefusal(s, n);
        if (refusal < 0) {
            return refuse(FARTHER + refusal);
        }
        knocks.read(shelves, s, n);
        knocks.hear(ministry, ways);
        return knocks.nextDesk(ministry);
    }

    public int enough(int capsule, int desk, int m) {
        if (!ministry.hasCapsule(capsule) || !ministry.hasDesk(desk)) {
            return refuse(FARTHER + NOBODY);
        }
        if (m < 0 || m > MOST_MINUTES) {
            return refuse(FARTHER + WRONG);
        }
        for (int pressure = 1; pressure <= 9; pressure++) {
            int minutes = ways.minutesTo(ministry, capsule, desk, pressure);
            if (minutes != NONE && minutes <= m) {
                return pressure;
            }
        }
        return NONE;
    }

    public int tree(int what) {
        if (what != 0 && what != 1) {
            return refuse(FARTHER + BEYOND);
        }
        if (!joining.joinAll(ministry)) {
            return NONE;
        }
        return what == 0 ? joining.sum : joining.chosen;
    }

    public int seat(int capsule, int what) {
        if (!ministry.hasCapsule(capsule)) {
            return refuse(NOBODY);
        }
        if (what != 0 && what != 1) {
            return refuse(BEYOND);
        }
        ways.prepareFor(ministry, capsule, ministry.pressure);
        ways.fillTable(ministry);
        int best = 0;
        for (int d = 1; d < ministry.desks; d++) {
            if (ways.longestFrom(ministry, d) < ways.longestFrom(ministry, best)) {
                best = d;
            }
        }
        return what == 0 ? best : ways.longestFrom(ministry, best);
    }

    // ---- days ----

    public int judge(int s, int n) {
        int refusal = legsRefusal(s, n);
        if (refusal == 0 && n > MOST_LEGS) {
            refusal = WRONG;
        }
        if (refusal < 0) {
            return refuse(FARTHER + refusal);
        }
        draft.takeOver(ministry);
        return days.findWrong(draft, ways, shelves, s, n);
    }

    public int behind(int s, int n, int what) {
        int refusal = legsRefusal(s, n);
        if (refusal < 0) {
            return refuse(refusal);
        }
        if (what < 0 || what > 2 || (what == 2 && ministry.capsules == 0)) {
            return refuse(BEYOND);
        }
        if (!standsOnDraft(s, n)) {
            return refuse(WRONG);
        }
        if (what == 0) {
            return days.minutes;
        }
        return what == 1 ? days.signs : draft.at[0];
    }

    public int done(int s, int n) {
        int refusal = legsRefusal(s, n);
        if (refusal < 0) {
            return refuse(refusal);
        }
        if (!standsOnDraft(s, n)) {
            return refuse(WRONG);
        }
        ministry.takeOver(draft);
        return ministry.minutes;
    }

    public int send(int capsule, int desk, boolean signs) {
        if (!ministry.hasCapsule(capsule) || !ministry.hasDesk(desk)) {
            return refuse(NOBODY);
        }
        int minutes = ways.minutesTo(ministry, capsule, desk, ministry.pressure);
        if (minutes == NONE) {
            return refuse(WRONG);
        }
        ministry.goTo(capsule, desk, minutes, signs);
        return minutes;
    }

    public int months(int n) {
        if (ministry.capsules == 0) {
            return refuse(BEYOND);
        }
        if (n < 1 || n > MOST_DRAWN_LEGS) {
            return refuse(WRONG);
        }
        for (int i = 0; i < n; i++) {
            days.takeDrawnLeg(ministry, ways);
        }
        return ministry.minutes;
    }

    public int seed(int v) {
        int was = ministry.seed;
        ministry.seed = v;
        return was;
    }

    // ---- moves ----

    public int act(int capsule, int move, int x) {
        moves.forget();
        if (!ministry.hasCapsule(capsule)) {
            return 0;
        }
        return moves.run(ministry.kind[capsule], capsule, ministry.a[capsule], move, x);
    }

    public int trace(int i) {
        return moves.bodyAt(i);
    }

    // ---- the image, how many ----

    public int image() {
        kept.takeOver(ministry);
        imageTaken = true;
        return kept.capsules;
    }

    public int restore() {
        if (!imageTaken) {
            return refuse(WRONG);
        }
        ministry.takeOver(kept);
        shelves.dropCapsulesFrom(ministry.capsules);
        return ministry.capsules;
    }

    public int status(int what) {
        switch (what) {
            case 0:
                return ministry.desks;
            case 1:
                return ministry.tubes;
            case 2:
                return ministry.capsules;
            case 3:
                return ministry.pressure;
            case 4:
                return ministry.minutes;
            case 5:
                return ministry.signedTogether();
            case 6:
                return ministry.shutTubes();
            case 7:
                return ministry.seed;
            case 8:
                return moves.ran;
            default:
                return what > 10 && what <= 10 + REFUSALS ? refusals[what - 10] : NONE;
        }
    }

    // ---- refusals that several calls share ----

    private int refuse(int answer) {
        int number = answer < FARTHER ? FARTHER - answer : -answer;
        if (number >= 1 && number <= REFUSALS) {
            refusals[number]++;
        }
        return answer;
    }

    private int rowRefusal(int s) {
        if (!shelves.hasShelf(s)) {
            return NOBODY;
        }
        int held = shelves.heldAt(s);
        if (held == NONE) {
            return NOTHING;
        }
        return held < ROW_HELD ? OTHER : 0;
    }

    private int copyRefusal(int p, int q) {
        int first = rowRefusal(p);
        int second = rowRefusal(q);
        if (first == NOBODY || second == NOBODY) {
            return NOBODY;
        }
        if (first == OTHER || second == OTHER) {
            return OTHER;
        }
        if (first == NOTHING || second == NOTHING) {
            return NOTHING;
        }
        return shelves.heldAt(p) == shelves.heldAt(q) ? 0 : OTHER;
    }

    private int knocksRefusal(int s, int n) {
        int refusal = rowRefusal(s);
        if (refusal < 0) {
            return refusal;
        }
        if (n < 0) {
            return BELOW;
        }
        if (n > shelves.sizeOf(s) / 2) {
            return BEYOND;
        }
        if (n < 1 || n > MOST_KNOCKS) {
            return WRONG;
        }
        for (int i = 0; i < n; i++) {
            int minute = shelves.intAt(s, 2 * i + 1);
            if (!ministry.hasDesk(shelves.intAt(s, 2 * i)) || minute < 0 || minute > LAST_KNOCK) {
                return WRONG;
            }
        }
        return 0;
    }

    private int legsRefusal(int s, int n) {
        int refusal = rowRefusal(s);
        if (refusal < 0) {
            return refusal;
        }
        if (n < 0) {
            return BELOW;
        }
        return n > shelves.sizeOf(s) ? BEYOND : 0;
    }

    private boolean standsOnDraft(int s, int n) {
        if (n > MOST_LEGS) {
            return false;
        }
        draft.takeOver(ministry);
        return days.findWrong(draft, ways, shelves, s, n) == NONE;
    }

    private static boolean isOneToNine(int v) {
        return v >= 1 && v <= 9;
    }

    private static boolean isDeskNumber(int d) {
        return d >= 0 && d < MOST_DESKS;
    }

    private static boolean isUnder(int kind, int wanted) {
        int above = kind;
        for (int i = 0; i < KINDS && above >= 0 && above < KINDS; i++) {
            if (above == wanted) {
                return true;
            }
            above = KIND_ABOVE[above];
        }
        return false;
    }

    /** All that an image keeps. What stands behind the counts is left over and never read. */
    private static final class Ministry {
        private int desks = 0;
        private final int[] signed = new int[MOST_DESKS];
        private int tubes = 0;
        private final int[] from = new int[MOST_TUBES];
        private final int[] to = new int[MOST_TUBES];
        private final int[] length = new int[MOST_TUBES];
        private final int[] bore = new int[MOST_TUBES];
        private int shutBits = 0;
        private int capsules = 0;
        private final int[] kind = new int[MOST_CAPSULES];
        private final int[] a = new int[MOST_CAPSULES];
        private final int[] weight = new int[MOST_CAPSULES];
        private final int[] at = new int[MOST_CAPSULES];
        private int pressure = 5;
        private int minutes = 0;
        private int seed = 1;

        boolean hasDesk(int d) {
            return d >= 0 && d < desks;
        }

        boolean hasTube(int t) {
            return t >= 0 && t < tubes;
        }

        boolean hasCapsule(int c) {
            return c >= 0 && c < capsules;
        }

        boolean hasRoomForDesk() {
            return desks < MOST_DESKS;
        }

        boolean hasRoomForTube() {
            return tubes < MOST_TUBES;
        }

        boolean hasRoomForCapsule() {
            return capsules < MOST_CAPSULES;
        }

        void addDesk() {
            if (hasRoomForDesk()) {
                signed[desks] = 0;
                desks++;
            }
        }

        void addTube(int newFrom, int newTo, int newLength, int newBore) {
            if (hasRoomForTube()) {
                from[tubes] = newFrom;
                to[tubes] = newTo;
                length[tubes] = newLength;
                bore[tubes] = newBore;
                tubes++;
                putShut(tubes - 1, false);
            }
        }

        void addCapsule(int newKind, int newA, int newWeight, int newAt) {
            if (hasRoomForCapsule()) {
                kind[capsules] = newKind;
                a[capsules] = newA;
                weight[capsules] = newWeight;
                at[capsules] = newAt;
                capsules++;
            }
        }

        boolean isShut(int t) {
            return hasTube(t) && (shutBits & 1 << t) != 0;
        }

        void putShut(int t, boolean is) {
            if (hasTube(t)) {
                shutBits = is ? shutBits | 1 << t : shutBits & ~(1 << t);
            }
        }

        void takeOver(Ministry other) {
            desks = other.desks;
            tubes = other.tubes;
            capsules = other.capsules;
            shutBits = other.shutBits;
            pressure = other.pressure;
            minutes = other.minutes;
            seed = other.seed;
            System.arraycopy(other.signed, 0, signed, 0, MOST_DESKS);
            System.arraycopy(other.from, 0, from, 0, MOST_TUBES);
            System.arraycopy(other.to, 0, to, 0, MOST_TUBES);
            System.arraycopy(other.length, 0, length, 0, MOST_TUBES);
            System.arraycopy(other.bore, 0, bore, 0, MOST_TUBES);
            System.arraycopy(other.kind, 0, kind, 0, MOST_CAPSULES);
            System.arraycopy(other.a, 0, a, 0, MOST_CAPSULES);
            System.arraycopy(other.weight, 0, weight, 0, MOST_CAPSULES);
            System.arraycopy(other.at, 0, at, 0, MOST_CAPSULES);
        }

        int minutesThrough(int c, int t, int asked) {
            if (!hasCapsule(c) || !hasTube(t) || !isOneToNine(asked)) {
                return FAR;
            }
            int load = length[t] * weight[c];
            switch (kind[c]) {
                case KING:
                    return Math.max(1, dividedUpward(load, asked) - 1);
                case RIVAL:
                    return Math.max(1, dividedUpward(load, 10 - asked) - 1);
                case DENTED:
                    return Math.max(1, dividedUpward(load, 10 - asked) - 1)
                        + (bore[t] == weight[c] ? 2 : 0);
                case MINISTER:
                case QUEEN:
                    return dividedUpward(load, asked) + a[c];
                case CAT:
                    return length[t];
                default:
                    return dividedUpward(load, asked);
            }
        }

        private static int dividedUpward(int load, int by) {
            return by > 0 ? (load + by - 1) / by : FAR;
        }

        boolean mayGo(int c, int t, boolean isForth) {
            if (!hasCapsule(c) || !hasTube(t)) {
                return false;
            }
            if (kind[c] == CAT) {
                return true;
            }
            if ((shutBits & 1 << t) != 0 || bore[t] < weight[c]) {
                return false;
            }
            return isForth || kind[c] != QUEEN;
        }

        void goTo(int c, int d, int taken, boolean signs) {
            if (!hasCapsule(c) || !hasDesk(d)) {
                return;
            }
            at[c] = d;
            minutes += taken;
            // The document tells SIGNED as 0 to 999 and no refusal for more.
            if (signs && signed[d] < MOST_SIGNED) {
                signed[d]++;
            }
        }

        int draw(int below) {
            seed = seed * 1103515245 + 12345;
            return below > 0 ? (seed >>> 16) % below : 0;
        }

        int signedTogether() {
            int sum = 0;
            for (int d = 0; d < desks && d < MOST_DESKS; d++) {
                sum += signed[d];
            }
            return sum;
        }

        int shutTubes() {
            return Integer.bitCount(shutBits);
        }
    }

    /** What each shelf holds: NONE, a capsule's number, or 100 and the sort of its row (else its size is 0). */
    private static final class Shelves {
        private final int[] held = {NONE, NONE, NONE, NONE, NONE, NONE, NONE, NONE};
        private final int[] sizes = new int[MOST_SHELVES];
        private final long[][] rows = new long[MOST_SHELVES][MOST_ELEMENTS];

        boolean hasShelf(int s) {
            return s >= 0 && s < MOST_SHELVES;
        }

        boolean hasRow(int s) {
            return hasShelf(s) && held[s] >= ROW_HELD;
        }

        int heldAt(int s) {
            return hasShelf(s) ? held[s] : NONE;
        }

        int sizeOf(int s) {
            return hasShelf(s) ? sizes[s] : 0;
        }

        void putRow(int s, int sort, int n) {
            if (hasShelf(s) && n >= 0 && n <= MOST_ELEMENTS) {
                held[s] = ROW_HELD + sort;
                sizes[s] = n;
                Arrays.fill(rows[s], 0L);
            }
        }

        void putHeld(int s, int capsule) {
            if (hasShelf(s)) {
                held[s] = capsule;
                sizes[s] = 0;
            }
        }

        boolean hasElement(int s, int i) {
            return i >= 0 && i < sizeOf(s) && i < MOST_ELEMENTS;
        }

        long elementAt(int s, int i) {
            return hasElement(s, i) ? rows[s][i] : 0L;
        }

        int intAt(int s, int i) {
            return (int) elementAt(s, i);
        }

        void putElement(int s, int i, long v) {
            if (hasElement(s, i)) {
                rows[s][i] = lowestBits(v, held[s] - ROW_HELD);
            }
        }

        private static long lowestBits(long v, int sort) {
            switch (sort) {
                case 0:
                    return (byte) v;
                case 1:
                    return (short) v;
                case 2:
                    return (int) v;
                default:
                    return v;
            }
        }

        boolean hasPart(int s, int i, int n) {
            return i >= 0 && n >= 0 && n <= sizeOf(s) && i <= sizeOf(s) - n;
        }

        void copyPart(int p, int q, int i, int j, int n) {
            if (hasRow(p) && hasRow(q) && hasPart(p, i, n) && hasPart(q, j, n)) {
                System.arraycopy(rows[p], i, rows[q], j, n);
            }
        }

        void dropCapsulesFrom(int first) {
            for (int s = 0; s < MOST_SHELVES; s++) {
                if (held[s] >= first && held[s] < ROW_HELD) {
                    held[s] = NONE;
                }
            }
        }
    }

    /** Tubes as one capsule (or a knock) finds them, and the ways through them. */
    private static final class Ways {
        private final int[] minutes = new int[MOST_TUBES];
        private final boolean[] forth = new boolean[MOST_TUBES];
        private final boolean[] back = new boolean[MOST_TUBES];
        private final int[] reach = new int[MOST_DESKS];
        private final int[] reachOfOne = new int[MOST_DESKS];
        private final int[][] table = new int[MOST_DESKS][MOST_DESKS];

        void prepareFor(Ministry m, int c, int pressure) {
            for (int t = 0; t < m.tubes && t < MOST_TUBES; t++) {
                minutes[t] = m.minutesThrough(c, t, pressure);
                forth[t] = m.mayGo(c, t, true);
                back[t] = m.mayGo(c, t, false);
            }
        }

        void prepareForKnocks(Ministry m) {
            for (int t = 0; t < m.tubes && t < MOST_TUBES; t++) {
                minutes[t] = m.length[t];
                forth[t] = !m.isShut(t);
                back[t] = !m.isShut(t);
            }
        }

        int passableTubes(Ministry m) {
            int bits = 0;
            for (int t = 0; t < m.tubes && t < MOST_TUBES; t++) {
                if (forth[t] || back[t]) {
                    bits |= 1 << t;
                }
            }
            return bits;
        }

        /** No least way goes through more tubes than there are desks. */
        void spread(Ministry m, int start) {
            Arrays.fill(reach, FAR);
            if (!m.hasDesk(start)) {
                return;
            }
            reach[start] = 0;
            boolean nearer = true;
            for (int i = 0; i < MOST_DESKS && nearer; i++) {
                nearer = false;
                for (int t = 0; t < m.tubes && t < MOST_TUBES; t++) {
                    if (forth[t] && comesNearer(m.from[t], m.to[t], minutes[t])) {
                        nearer = true;
                    }
                    if (back[t] && comesNearer(m.to[t], m.from[t], minutes[t])) {
                        nearer = true;
                    }
                }
            }
        }

        private boolean comesNearer(int one, int next, int taken) {
            if (!isDeskNumber(one) || !isDeskNumber(next) || reach[one] == FAR || reach[one] + taken >= reach[next]) {
                return false;
            }
            reach[next] = reach[one] + taken;
            return true;
        }

        void fillTable(Ministry m) {
            for (int d = 0; d < m.desks && d < MOST_DESKS; d++) {
                spread(m, d);
                System.arraycopy(reach, 0, table[d], 0, MOST_DESKS);
            }
        }

        int between(int one, int other) {
            return isDeskNumber(one) && isDeskNumber(other) ? table[one][other] : FAR;
        }

        int minutesTo(Ministry m, int c, int d, int pressure) {
            if (!m.hasCapsule(c)) {
                return NONE;
            }
            prepareFor(m, c, pressure);
            spread(m, m.at[c]);
            return reached(m, d);
        }

        int stepsTo(Ministry m, int c, int d) {
            if (!m.hasCapsule(c)) {
                return NONE;
            }
            prepareFor(m, c, m.pressure);
            Arrays.fill(minutes, 1);
            spread(m, m.at[c]);
            return reached(m, d);
        }

        private int reached(Ministry m, int d) {
            return !m.hasDesk(d) || reach[d] == FAR ? NONE : reach[d];
        }

        int firstTubeTo(Ministry m, int c, int d) {
            if (!m.hasCapsule(c) || !m.hasDesk(d)) {
                return NONE;
            }
            int start = m.at[c];
            prepareFor(m, c, m.pressure);
            fillTable(m);
            int least = between(start, d);
            if (start == d || least == FAR) {
                return NONE;
            }
            for (int t = 0; t < m.tubes && t < MOST_TUBES; t++) {
                if (forth[t] && m.from[t] == start && minutes[t] + between(m.to[t], d) == least) {
                    return t;
                }
                if (back[t] && m.to[t] == start && minutes[t] + between(m.from[t], d) == least) {
                    return t;
                }
            }
            return NONE;
        }

        int desksWithin(Ministry m, int most) {
            int bits = 0;
            for (int d = 0; d < m.desks && d < MOST_DESKS; d++) {
                if (reach[d] <= most) {
                    bits |= 1 << d;
                }
            }
            return bits;
        }

        void keepReach() {
            System.arraycopy(reach, 0, reachOfOne, 0, MOST_DESKS);
        }

        int laterAt(int d) {
            return d >= 0 && d < MOST_DESKS ? Math.max(reachOfOne[d], reach[d]) : FAR;
        }

        int deskToMeet(Ministry m) {
            int best = NONE;
            int least = FAR;
            for (int d = 0; d < m.desks && d < MOST_DESKS; d++) {
                if (laterAt(d) < least) {
                    least = laterAt(d);
                    best = d;
                }
            }
            return best;
        }

        int longestFrom(Ministry m, int d) {
            int longest = 0;
            for (int e = 0; e < m.desks && e < MOST_DESKS; e++) {
                longest = Math.max(longest, between(d, e));
            }
            return longest;
        }
    }

    /** Least minutes for what is left of a round, by the desks left and where one is. */
    private static final class Rounds {
        private final int[] best = new int[(1 << MOST_DESKS) * MOST_DESKS];

        int leastMinutes(Ways ways, int start, int desks, int stay) {
            for (int left = 0; left <= desks && left < 1 << MOST_DESKS; left++) {
                if ((left & ~desks) != 0) {
                    continue;
                }
                for (int from = 0; from < MOST_DESKS; from++) {
                    if (from == start || (desks & ~left & 1 << from) != 0) {
                        best[left * MOST_DESKS + from] = leastFrom(ways, left, from, stay);
                    }
                }
            }
            return bestOf(desks, start);
        }

        private int bestOf(int left, int from) {
            int i = left * MOST_DESKS + from;
            return i >= 0 && i < best.length ? best[i] : FAR;
        }

        private int leastFrom(Ways ways, int left, int from, int stay) {
            if (left == 0) {
                return 0;
            }
            int least = FAR;
            for (int d = 0; d < MOST_DESKS; d++) {
                if ((left & 1 << d) != 0) {
                    least = Math.min(least, leastOver(ways, left, from, d, stay));
                }
            }
            return least;
        }

        private int leastOver(Ways ways, int left, int from, int d, int stay) {
            int first = ways.between(from, d);
            int rest = bestOf(left & ~(1 << d), d);
            return first == FAR || rest == FAR ? FAR : first + stay + rest;
        }

        int deskOfOrder(Ways ways, int start, int desks, int stay, int i) {
            int left = desks;
            int from = start;
            for (int k = 0; k <= i && k < MOST_DESKS; k++) {
                int next = nextOfOrder(ways, left, from, stay);
                if (next == NONE) {
                    return NONE;
                }
                left &= ~(1 << next);
                from = next;
            }
            return from;
        }

        private int nextOfOrder(Ways ways, int left, int from, int stay) {
            for (int d = 0; d < MOST_DESKS; d++) {
                if ((left & 1 << d) != 0
                    && leastOver(ways, left, from, d, stay) == bestOf(left, from)) {
                    return d;
                }
            }
            return NONE;
        }
    }

    /** Which tubes keep one from a desk: as many as there are ways without a shared tube. */
    private static final class Cuts {
        // 1: a way goes through from FROM to TO, -1: the other way about.
        private final int[] flow = new int[MOST_TUBES];
        private final int[] cameBy = new int[MOST_DESKS];

        boolean reaches(Ministry m, Ways ways, int start, int goal, int without) {
            int seen = 1 << start;
            for (int i = 0; i < MOST_DESKS; i++) {
                for (int t = 0; t < m.tubes && t < MOST_TUBES; t++) {
                    if (t == without) {
                        continue;
                    }
                    if (ways.forth[t] && (seen & 1 << m.from[t]) != 0) {
                        seen |= 1 << m.to[t];
                    }
                    if (ways.back[t] && (seen & 1 << m.to[t]) != 0) {
                        seen |= 1 << m.from[t];
                    }
                }
            }
            return (seen & 1 << goal) != 0;
        }

        int neededTubes(Ministry m, Ways ways, int start, int goal) {
            int bits = 0;
            for (int t = 0; t < m.tubes && t < MOST_TUBES; t++) {
                if (!reaches(m, ways, start, goal, t)) {
                    bits |= 1 << t;
                }
            }
            return bits;
        }

        int fewestTubes(Ministry m, Ways ways, int start, int goal) {
            Arrays.fill(flow, 0);
            int found = 0;
            for (int i = 0; i < MOST_TUBES; i++) {
                if (!findWay(m, ways, start, goal)) {
                    break;
                }
                takeWay(m, start, goal);
                found++;
            }
            return found;
        }

        private boolean findWay(Ministry m, Ways ways, int start, int goal) {
            Arrays.fill(cameBy, NONE);
            int seen = 1 << start;
            for (int i = 0; i < MOST_DESKS; i++) {
                for (int t = 0; t < m.tubes && t < MOST_TUBES; t++) {
                    boolean fromSeen = (seen & 1 << m.from[t]) != 0;
                    boolean toSeen = (seen & 1 << m.to[t]) != 0;
                    if (fromSeen && !toSeen && flow[t] < (ways.forth[t] ? 1 : 0)) {
                        seen |= comeBy(t, m.to[t]);
                    } else if (toSeen && !fromSeen && -flow[t] < (ways.back[t] ? 1 : 0)) {
                        seen |= comeBy(t, m.from[t]);
                    }
                }
            }
            return (seen & 1 << goal) != 0;
        }

        private int comeBy(int t, int d) {
            if (!isDeskNumber(d)) {
                return 0;
            }
            cameBy[d] = t;
            return 1 << d;
        }

        private void takeWay(Ministry m, int start, int goal) {
            int d = goal;
            for (int i = 0; i < MOST_DESKS && d != start && isDeskNumber(d); i++) {
                int t = cameBy[d];
                if (!m.hasTube(t)) {
                    return;
                }
                if (m.to[t] == d) {
                    flow[t]++;
                    d = m.from[t];
                } else {
                    flow[t]--;
                    d = m.to[t];
                }
            }
        }
    }

    /** In which tube a knock began, and at which desk to listen next. */
    private static final class Knocks {
        private final int[] toldDesks = new int[MOST_KNOCKS];
        private final int[] toldMinutes = new int[MOST_KNOCKS];
        private int told = 0;
        private final int[][] delays = new int[MOST_TUBES][MOST_DESKS];

        void read(Shelves shelves, int s, int n) {
            told = Math.min(n, MOST_KNOCKS);
            for (int i = 0; i < told && i < MOST_KNOCKS; i++) {
                toldDesks[i] = shelves.intAt(s, 2 * i);
                toldMinutes[i] = shelves.intAt(s, 2 * i + 1);
            }
        }

        void hear(Ministry m, Ways ways) {
            ways.prepareForKnocks(m);
            ways.fillTable(m);
            for (int t = 0; t < m.tubes && t < MOST_TUBES; t++) {
                for (int d = 0; d < m.desks && d < MOST_DESKS; d++) {
                    delays[t][d] = Math.min(ways.between(m.from[t], d), ways.between(m.to[t], d));
                }
            }
        }

        int fittingTubes(Ministry m) {
            int bits = 0;
            for (int t = 0; t < m.tubes && t < MOST_TUBES; t++) {
                if (fits(m, t)) {
                    bits |= 1 << t;
                }
            }
            return bits;
        }

        private boolean fits(Ministry m, int t) {
            int began = 0;
            for (int i = 0; i < told && i < MOST_KNOCKS; i++) {
                int d = toldDesks[i];
                if (!m.hasDesk(d) || delays[t][d] == FAR) {
                    return false;
                }
                int beganForThis = toldMinutes[i] - delays[t][d];
                if (i > 0 && beganForThis != began) {
                    return false;
                }
                began = beganForThis;
            }
            return true;
        }

        int nextDesk(Ministry m) {
            int fitting = fittingTubes(m);
            int first = toldDesks[0];
            if (Integer.bitCount(fitting) < 2 || !m.hasDesk(first)) {
                return NONE;
            }
            int heardAt = 0;
            for (int i = 0; i < told && i < MOST_KNOCKS; i++) {
                heardAt |= 1 << toldDesks[i];
            }
            int best = NONE;
            int fewest = MOST_TUBES + 1;
            for (int d = 0; d < m.desks && d < MOST_DESKS; d++) {
                if ((heardAt & 1 << d) == 0) {
                    int left = mostLeft(m, fitting, first, d);
                    if (left < fewest) {
                        fewest = left;
                        best = d;
                    }
                }
            }
            return best;
        }

        private int mostLeft(Ministry m, int fitting, int first, int d) {
            int most = 0;
            for (int t = 0; t < m.tubes && t < MOST_TUBES; t++) {
                int alike = 0;
                for (int u = 0; u < m.tubes && u < MOST_TUBES; u++) {
                    if ((fitting & 1 << t) != 0 && (fitting & 1 << u) != 0
                        && lateness(t, first, d) == lateness(u, first, d)) {
                        alike++;
                    }
                }
                most = Math.max(most, alike);
            }
            return most;
        }

        /** What is never heard is told from all that is: FAR is no real lateness. */
        private int lateness(int t, int first, int d) {
            return delays[t][d] == FAR ? FAR : delays[t][d] - delays[t][first];
        }
    }

    /** The tubes that would do to join all desks. */
    private static final class Joining {
        private final int[] group = new int[MOST_DESKS];
        private int sum = 0;
        private int chosen = 0;

        /** Shorter tubes first, then lower numbers: so the bits are the least, too. */
        boolean joinAll(Ministry m) {
            sum = 0;
            chosen = 0;
            int groups = m.desks;
            for (int d = 0; d < MOST_DESKS; d++) {
                group[d] = d;
            }
            for (int length = 1; length <= 9; length++) {
                for (int t = 0; t < m.tubes && t < MOST_TUBES; t++) {
                    if (m.length[t] == length && joins(m.from[t], m.to[t])) {
                        sum += length;
                        chosen |= 1 << t;
                        groups--;
                    }
                }
            }
            return groups <= 1;
        }

        private boolean joins(int one, int other) {
            if (!isDeskNumber(one) || !isDeskNumber(other)) {
                return false;
            }
            int kept = group[one];
            int given = group[other];
            if (kept == given) {
                return false;
            }
            for (int d = 0; d < MOST_DESKS; d++) {
                if (group[d] == given) {
                    group[d] = kept;
                }
            }
            return true;
        }
    }

    /** Reads a plan from a row and tells it to a draft as it goes. */
    private static final class PlanReader {
        private static final int DESK_WORD = 0;
        private static final int TUBE_WORD = 1;
        private static final int CAPSULE_WORD = 2;
        private static final int SHUT_WORD = 3;
        private static final int OPEN_WORD = 4;
        private static final int PRESSURE_WORD = 5;
        private static final int WORDS = 6;
        private static final int MOST_NUMBERS = 4;

        private final int[] letters = new int[MOST_ELEMENTS];
        private final int[] numbers = new int[MOST_NUMBERS];
        private int size = 0;
        private int place = 0;
        private int faultPlace = NONE;
        private int items = 0;

        int findFault(Shelves shelves, int s, Ministry draft) {
            size = Math.min(shelves.sizeOf(s), MOST_ELEMENTS);
            for (int i = 0; i < size; i++) {
                letters[i] = shelves.intAt(s, i);
            }
            place = 0;
            faultPlace = NONE;
            items = 0;
            for (int i = 0; i <= MOST_ELEMENTS; i++) {
                if (!readItem(draft)) {
                    return faultPlace;
                }
                items++;
                if (place >= size) {
                    return NONE;
                }
                if (!readSign(';')) {
                    return faultPlace;
                }
            }
            return place;
        }

        private boolean failAt(int where) {
            faultPlace = where;
            return false;
        }

        private int letterHere() {
            return place >= 0 && place < size && place < MOST_ELEMENTS ? letters[place] : NONE;
        }

        private boolean isDigitHere() {
            return letterHere() >= '0' && letterHere() <= '9';
        }

        private boolean readSign(char sign) {
            if (letterHere() != sign) {
                return failAt(place);
            }
            place++;
            return true;
        }

        private boolean readItem(Ministry draft) {
            int start = place;
            int word = wordThatBeginsHere();
            if (word == NONE) {
                return failAt(place);
            }
            String text = textOf(word);
            for (int i = 0; i < text.length(); i++) {
                if (!readSign(text.charAt(i))) {
                    return false;
                }
            }
            if (!hasRoomFor(word, draft)) {
                return failAt(start);
            }
            for (int i = 0; i < numbersOf(word) && i < MOST_NUMBERS; i++) {
                if (!readSign(' ') || !readNumber(word, i, draft)) {
                    return false;
                }
            }
            tell(word, draft);
            return true;
        }

        private int wordThatBeginsHere() {
            for (int word = 0; word < WORDS; word++) {
                if (textOf(word).charAt(0) == letterHere()) {
                    return word;
                }
            }
            return NONE;
        }

        private static String textOf(int word) {
            switch (word) {
                case DESK_WORD:
                    return "desk";
                case TUBE_WORD:
                    return "tube";
                case CAPSULE_WORD:
                    return "capsule";
                case SHUT_WORD:
                    return "shut";
                case OPEN_WORD:
                    return "open";
                default:
                    return "pressure";
            }
        }

        private static int numbersOf(int word) {
            switch (word) {
                case DESK_WORD:
                    return 0;
                case TUBE_WORD:
                case CAPSULE_WORD:
                    return 4;
                default:
                    return 1;
            }
        }

        private static boolean hasRoomFor(int word, Ministry draft) {
            switch (word) {
                case DESK_WORD:
                    return draft.hasRoomForDesk();
                case TUBE_WORD:
                    return draft.hasRoomForTube();
                case CAPSULE_WORD:
                    return draft.hasRoomForCapsule();
                default:
                    return true;
            }
        }

        private boolean readNumber(int word, int i, Ministry draft) {
            int start = place;
            if (!isDigitHere()) {
                return failAt(place);
            }
            int value = letterHere() - '0';
            place++;
            if (isDigitHere()) {
                value = value * 10 + letterHere() - '0';
                place++;
            }
            if (!mayStand(word, i, value, draft)) {
                return failAt(start);
            }
            numbers[i] = value;
            return true;
        }

        private boolean mayStand(int word, int i, int value, Ministry draft) {
            switch (word) {
                case TUBE_WORD:
                    return mayStandInTube(i, value, draft);
                case CAPSULE_WORD:
                    return mayStandInCapsule(i, value, draft);
                case PRESSURE_WORD:
                    return isOneToNine(value);
                default:
                    return draft.hasTube(value);
            }
        }

        private boolean mayStandInTube(int i, int value, Ministry draft) {
            switch (i) {
                case 0:
                    return draft.hasDesk(value);
                case 1:
                    return draft.hasDesk(value) && value != numbers[0];
                default:
                    return isOneToNine(value);
            }
        }

        private static boolean mayStandInCapsule(int i, int value, Ministry draft) {
            switch (i) {
                case 0:
                    return value < KINDS;
                case 1:
                    return value <= 9;
                case 2:
                    return isOneToNine(value);
                default:
                    return draft.hasDesk(value);
            }
        }

        private void tell(int word, Ministry draft) {
            switch (word) {
                case DESK_WORD:
                    draft.addDesk();
                    break;
                case TUBE_WORD:
                    draft.addTube(numbers[0], numbers[1], numbers[2], numbers[3]);
                    break;
                case CAPSULE_WORD:
                    draft.addCapsule(numbers[0], numbers[1], numbers[2], numbers[3]);
                    break;
                case PRESSURE_WORD:
                    draft.pressure = numbers[0];
                    break;
                default:
                    draft.putShut(numbers[0], word == SHUT_WORD);
                    break;
            }
        }
    }

    /** Legs: told ones upon a draft, drawn ones in truth. */
    private static final class Days {
        private int minutes = 0;
        private int signs = 0;

        int findWrong(Ministry draft, Ways ways, Shelves shelves, int s, int n) {
            minutes = 0;
            signs = 0;
            for (int i = 0; i < n && i < MOST_LEGS; i++) {
                if (!takeToldLeg(draft, ways, shelves.intAt(s, i))) {
                    return i;
                }
            }
            return NONE;
        }

        private boolean takeToldLeg(Ministry draft, Ways ways, int leg) {
            int c = leg / 100;
            int d = leg / 10 % 10;
            int last = leg % 10;
            if (leg < 0 || last > 1 || !draft.hasCapsule(c) || !draft.hasDesk(d)) {
                return false;
            }
            int taken = ways.minutesTo(draft, c, d, draft.pressure);
            if (taken == NONE) {
                return false;
            }
            draft.goTo(c, d, taken, last == 1);
            minutes += taken;
            signs += last;
            return true;
        }

        void takeDrawnLeg(Ministry m, Ways ways) {
            int c = m.draw(m.capsules);
            int d = m.draw(m.desks);
            boolean signsThere = m.draw(2) == 1;
            int taken = ways.minutesTo(m, c, d, m.pressure);
            if (taken != NONE) {
                m.goTo(c, d, taken, signsThere);
            }
        }
    }

    /** The bodies of the moves, each with its number, and which of them ran. */
    private static final class Moves {
        private final int[] bodies = new int[MOST_TRACED];
        private int ran = 0;
        private int ownKind = 0;
        private int number = 0;
        private int k = 0;

        void forget() {
            ran = 0;
        }

        int bodyAt(int i) {
            return i >= 0 && i < ran && i < MOST_TRACED ? bodies[i] : NONE;
        }

        int run(int kind, int capsule, int a, int move, int x) {
            ownKind = kind;
            number = capsule;
            k = a;
            switch (move) {
                case 0:
                    return hissesFrom(kind, x);
                case 1:
                    return landsFrom(kind, x);
                case 2:
                    return signsFrom(kind, x);
                default:
                    return 0;
            }
        }

        private void begin(int body) {
            if (ran >= 0 && ran < MOST_TRACED) {
                bodies[ran] = body;
            }
            ran++;
        }

        private int hissesFrom(int kind, int x) {
            switch (kind) {
                case KING:
                case RIVAL:
                    begin(20);
                    return hissesFrom(KIND_ABOVE[KING], x) + k;
                case MINISTER:
                case QUEEN:
                    begin(41);
                    return hissesFrom(KIND_ABOVE[MINISTER], x) - number;
                case DENTED:
                    begin(70);
                    return hissesFrom(KIND_ABOVE[DENTED], x) * 2;
                default:
                    begin(10);
                    return x + number;
            }
        }

        private int landsFrom(int kind, int x) {
            switch (kind) {
                case RIVAL:
                    begin(30);
                    return landsFrom(KIND_ABOVE[RIVAL], x) * 3;
                case QUEEN:
                    begin(50);
                    return landsFrom(KIND_ABOVE[QUEEN], x + 1);
                case DENTED:
                    begin(71);
                    return landsFrom(KIND_ABOVE[DENTED], x - k);
                default:
                    begin(11);
                    return hissesFrom(ownKind, x) * 2;
            }
        }

        private int signsFrom(int kind, int x) {
            switch (kind) {
                case MINISTER:
                case QUEEN:
                    begin(40);
                    return -signsFrom(KIND_ABOVE[MINISTER], x);
                case CAT:
                    begin(60);
                    return signsFrom(KIND_ABOVE[CAT], x) ^ 5;
                default:
                    begin(12);
                    return landsFrom(ownKind, x) ^ hissesFrom(ownKind, x - k);
            }
        }
    }
}
