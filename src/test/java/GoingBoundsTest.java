/** "2. GOING" and the first half of "3. WHAT COMES OF IT", to KEEP: each sentence that names a boundary. */
public final class GoingBoundsTest {
    private static final Due DUE = new Due();
    private static final int QUEEN = 4;
    private static final int CAT = 5;

    public static void main(String[] args) {
        bore();
        cat();
        queen();
        upward();
        king();
        rival();
        minister();
        catTime();
        dented();
        together();
        leastMinutes();
        first();
        within();
        steps();
        dire();
        roundStays();
        roundHere();
        roundNone();
        roundOrder();
        meet();
        cut();
        keep();
        DUE.end();
    }

    private static void bore() {
        DUE.sentence("if it isn't SHUT and the BORE is the WEIGHT at least");
        for (int kind = 0; kind < 7; kind++) {
            for (int weight = 1; weight <= 9; weight++) {
                TubesOfCourt x = Due.withDesks(2);
                x.capsule(kind, 0, weight, 0);
                x.image();
                for (int bore = 1; bore <= 9; bore++) {
                    String what = "kind " + kind + " of " + weight + " through " + bore;
                    boolean may = kind == CAT || bore >= weight;
                    x.restore();
                    x.tube(0, 1, 1, bore);
                    DUE.is(what, x.way(0, 1, 2), may ? 1 : -1);
                    x.shut(0, true);
                    DUE.is(what + ", shut", x.way(0, 1, 2), kind == CAT ? 1 : -1);
                    x.shut(0, false);
                    DUE.is(what + ", open again", x.way(0, 1, 2), may ? 1 : -1);
                }
            }
        }
    }

    private static void cat() {
        DUE.sentence("CAT: always");
        TubesOfCourt x = Due.line(3, 2, 1);
        x.capsule(CAT, 0, 9, 0);
        x.capsule(CAT, 0, 9, 2);
        x.shut(0, true);
        x.shut(1, true);
        DUE.is("there", x.way(0, 2, 0), 4);
        DUE.is("back", x.way(1, 0, 0), 4);
        DUE.is("not where no tube is", Due.withDesks(2).capsule(CAT, 0, 1, 0), 0);
    }

    private static void queen() {
        DUE.sentence("QUEEN: only from FROM to TO.");
        TubesOfCourt x = Due.line(3, 1, 9);
        x.capsule(QUEEN, 0, 1, 0);
        x.capsule(QUEEN, 0, 1, 2);
        x.capsule(3, 0, 1, 2);
        DUE.is("there", x.way(0, 2, 2), 2);
        DUE.is("not back", x.way(1, 0, 2), -1);
        DUE.is("not back by one", x.way(1, 1, 2), -1);
        DUE.is("a minister, back", x.way(2, 0, 2), 2);
        x.tube(2, 0, 1, 9);
        DUE.is("round about", x.way(1, 1, 2), 2);
    }

    /** What there is, by each length, weight and pressure; by is what the load is divided by. */
    private static int upward(int length, int weight, int by) {
        int load = length * weight;
        return load % by == 0 ? load / by : load / by + 1;
    }

    private static TubesOfCourt tubesOfLengths(int bore) {
        TubesOfCourt x = Due.withDesks(2);
        for (int length = 1; length <= 9; length++) {
            x.tube(0, 1, length, bore);
        }
        return x;
    }

    /** Asks the time of a kind for all lengths, weights and pressures. */
    private static void times(int kind, int a, int bore) {
        for (int weight = 1; weight <= 9; weight++) {
            TubesOfCourt x = tubesOfLengths(bore);
            x.capsule(kind, a, weight, 0);
            for (int p = 1; p <= 9; p++) {
                x.ask(p);
                for (int length = 1; length <= 9; length++) {
                    String what = "kind " + kind + ", weight " + weight + ", length " + length + " by " + p;
                    DUE.is(what, x.time(0, length - 1), timeDue(kind, a, bore, new int[] {length, weight, p}));
                }
            }
        }
    }

    private static int timeDue(int kind, int a, int bore, int[] of) {
        int by = of[2];
        switch (kind) {
            case 1:
                return Math.max(1, upward(of[0], of[1], by) - 1);
            case 2:
                return Math.max(1, upward(of[0], of[1], 10 - by) - 1);
            case 3:
            case QUEEN:
                return upward(of[0], of[1], by) + a;
            case CAT:
                return of[0];
            case 6:
                return Math.max(1, upward(of[0], of[1], 10 - by) - 1) + (bore == of[1] ? 2 : 0);
            default:
                return upward(of[0], of[1], by);
        }
    }

    private static void upward() {
        DUE.sentence("TIME of it: LENGTH times WEIGHT, by PRESSURE (upward).");
        times(0, 9, 1);
        TubesOfCourt x = tubesOfLengths(1);
        x.capsule(0, 0, 5, 0);
        DUE.is("no rest: 5 by 5", x.time(0, 0), 1);
        x.ask(4);
        DUE.is("a rest: 5 by 4", x.time(0, 0), 2);
        x.ask(9);
        DUE.is("less than one: 5 by 9", x.time(0, 0), 1);
        x.ask(1);
        DUE.is("by 1", x.time(0, 8), 45);
    }

    private static void king() {
        DUE.sentence("KING: 1 less (1 at least)");
        times(1, 9, 1);
        TubesOfCourt x = tubesOfLengths(1);
        x.capsule(1, 0, 1, 0);
        x.ask(1);
        DUE.is("1, and no less", x.time(0, 0), 1);
        DUE.is("1 of 2", x.time(0, 1), 1);
        DUE.is("2 of 3", x.time(0, 2), 2);
    }

    private static void rival() {
        DUE.sentence("RIVAL: by PRESSURE less (PRESSURE is taken for 10 less it), else as KING");
        times(2, 9, 1);
        TubesOfCourt x = tubesOfLengths(1);
        x.capsule(2, 0, 9, 0);
        x.ask(9);
        DUE.is("81 by 1, 1 less", x.time(0, 8), 80);
        x.ask(1);
        DUE.is("81 by 9, 1 less", x.time(0, 8), 8);
        DUE.is("1 at least", x.time(0, 0), 1);
    }

    private static void minister() {
        DUE.sentence("MINISTER, QUEEN: a more");
        for (int a : new int[] {0, 1, 9}) {
            times(3, a, 1);
            times(QUEEN, a, 1);
        }
    }

    private static void catTime() {
        DUE.sentence("CAT: LENGTH;");
        times(CAT, 9, 9);
    }

    private static void dented() {
        DUE.sentence("DENTED: as RIVAL, and 2 more if the BORE is just its WEIGHT.");
        for (int bore = 1; bore <= 9; bore++) {
            times(6, 9, bore);
        }
    }

    private static void together() {
        DUE.sentence("A WAY: TUBES one after the other, each MAY be gone through; it takes their TIMES together.");
        TubesOfCourt x = Due.withDesks(4);
        x.tube(0, 1, 9, 3);
        x.tube(2, 1, 4, 2);
        x.tube(2, 3, 3, 9);
        x.capsule(3, 2, 2, 0);
        x.capsule(3, 2, 3, 0);
        DUE.is("4 and 2, 2 and 2, 2 and 2", x.way(0, 3, 0), 14);
        DUE.is("one of them is too narrow", x.way(1, 3, 0), -1);
        DUE.is("up to it", x.way(1, 1, 0), 8);
        TubesOfCourt longest = Due.line(8, 9, 9);
        longest.capsule(QUEEN, 9, 9, 0);
        longest.ask(1);
        DUE.is("the longest of all", longest.way(0, 7, 0), 7 * 90);
        bySixteenth();
    }

    /** Fifteen tubes between 0 and 1, and the sixteenth on to 2. */
    private static void bySixteenth() {
        TubesOfCourt x = Due.withDesks(3);
        for (int t = 0; t < 15; t++) {
            x.tube(0, 1, 9, 9);
        }
        x.tube(2, 1, 2, 9);
        x.capsule(0, 0, 5, 1);
        x.capsule(QUEEN, 0, 5, 2);
        DUE.is("by it alone", x.way(0, 2, 0), 2);
        DUE.is("begins with it", x.way(0, 2, 1), 15);
        DUE.is("down by it", x.way(1, 1, 1), 15);
        DUE.is("steps", x.way(0, 2, 2), 1);
        DUE.is("cut by it", x.cut(0, 2, 0), 1);
        DUE.is("kept by it", x.cut(0, 2, 1), 1 << 15);
        DUE.is("cut by fifteen", x.cut(0, 0, 0), 15);
    }

    private static void leastMinutes() {
        DUE.sentence("WAY to a DESK: the least minutes; NONE.");
        TubesOfCourt x = Due.line(4, 1, 9);
        x.tube(0, 3, 4, 9);
        x.desk();
        x.capsule(CAT, 0, 1, 0);
        DUE.is("three short ones", x.way(0, 3, 0), 3);
        DUE.is("his own desk", x.way(0, 0, 0), 0);
        DUE.is("no way", x.way(0, 4, 0), -1);
        x.tube(3, 0, 2, 9);
        DUE.is("one that is shorter", x.way(0, 3, 0), 2);
    }

    private static void first() {
        DUE.sentence("FIRST: the TUBE with which such a WAY begins, of several the first.");
        TubesOfCourt x = Due.withDesks(4);
        x.tube(0, 1, 5, 9);
        x.tube(2, 3, 2, 9);
        x.tube(2, 0, 2, 9);
        x.tube(3, 0, 4, 9);
        x.tube(0, 3, 4, 9);
        x.capsule(CAT, 0, 1, 0);
        DUE.is("of three", x.way(0, 3, 1), 2);
        DUE.is("of one", x.way(0, 1, 1), 0);
        x.tube(1, 3, 1, 9);
        DUE.is("of three yet, and one that is longer", x.way(0, 3, 1), 2);
        DUE.is("of two", x.way(0, 1, 1), 0);
        DUE.is("at it", x.way(0, 0, 1), -1);
    }

    private static void within() {
        DUE.sentence("WITHIN m minutes (0 to 500): DESKS (bits) one can be at.");
        TubesOfCourt x = Due.line(8, 9, 9);
        x.capsule(0, 0, 9, 0);
        x.ask(1);
        for (int d = 0; d < 7; d++) {
            DUE.is("just " + d + " tubes", x.within(0, 81 * d), (1 << d + 1) - 1);
            DUE.is("a minute less", x.within(0, Math.max(0, 81 * d - 1)), d == 0 ? 1 : (1 << d) - 1);
        }
        DUE.is("500: 567 are too many", x.within(0, 500), 127);
        DUE.is("501", x.within(0, 501), -6);
        DUE.is("-2", x.within(0, -2), -6);
        DUE.is("far above", x.within(0, Due.HIGH), -6);
        DUE.is("far below", x.within(0, Due.LOW), -6);
        x.capsule(CAT, 0, 1, 7);
        DUE.is("eight desks", x.within(1, 63), 255);
    }

    private static void steps() {
        DUE.sentence("STEPS: the fewest TUBES of any WAY to a DESK; NONE.");
        TubesOfCourt x = Due.line(8, 1, 9);
        x.capsule(CAT, 0, 1, 0);
        DUE.is("seven", x.way(0, 7, 2), 7);
        x.tube(0, 6, 9, 9);
        DUE.is("two, though of more minutes", x.way(0, 7, 2), 2);
        DUE.is("minutes", x.way(0, 7, 0), 7);
        DUE.is("none", x.way(0, 0, 2), 0);
        TubesOfCourt y = Due.withDesks(2);
        y.capsule(CAT, 0, 1, 0);
        DUE.is("no way", y.way(0, 1, 2), -1);
    }

    private static void dire() {
        DUE.sentence("DIRE: TUBES (bits) that one MAY go through at all (one way at least).");
        TubesOfCourt x = Due.withDesks(4);
        for (int t = 0; t < 16; t++) {
            x.tube(t % 4, (t + 1) % 4, 1, 1 + t % 9);
        }
        x.capsule(0, 0, 1, 0);
        x.capsule(QUEEN, 0, 9, 3);
        x.capsule(QUEEN, 0, 1, 3);
        x.capsule(CAT, 0, 9, 0);
        DUE.is("all", x.within(0, -1), 65535);
        DUE.is("wide enough", x.within(1, -1), 1 << 8);
        DUE.is("one way is enough", x.within(2, -1), 65535);
        x.shut(15, true);
        x.shut(0, true);
        DUE.is("not what is shut", x.within(2, -1), 32766);
        DUE.is("a cat", x.within(3, -1), 65535);
        TubesOfCourt y = Due.withDesks(1);
        y.capsule(0, 0, 1, 0);
        DUE.is("no tubes", y.within(0, -1), 0);
        TubesOfCourt far = Due.withDesks(3);
        far.tube(1, 2, 1, 9);
        far.capsule(0, 0, 1, 0);
        DUE.is("one that he doesn't come to", far.within(0, -1), 1);
    }

    private static void roundStays() {
        DUE.sentence("ROUND of DESKS (bits) with s minutes (0 to 60) at each");
        TubesOfCourt x = Due.line(8, 1, 9);
        x.capsule(CAT, 0, 1, 0);
        DUE.is("0", x.round(0, 255, 0, -1), 7);
        DUE.is("1", x.round(0, 255, 1, -1), 15);
        DUE.is("60", x.round(0, 255, 60, -1), 487);
        DUE.is("61", x.round(0, 255, 61, -1), -16);
        DUE.is("-1", x.round(0, 255, -1, -1), -16);
        DUE.is("far above", x.round(0, 255, Due.HIGH, -1), -16);
        DUE.is("far below", x.round(0, 255, Due.LOW, -1), -16);
        DUE.is("no desks", x.round(0, 0, 0, -1), -16);
        DUE.is("a ninth", x.round(0, 256, 0, -1), -16);
        DUE.is("a ninth besides", x.round(0, 511, 0, -1), -16);
        DUE.is("far above", x.round(0, Due.HIGH, 0, -1), -16);
        DUE.is("the uppermost bit", x.round(0, Due.LOW, 0, -1), -16);
        DUE.is("all bits", x.round(0, -1, 0, -1), -16);
        DUE.is("the last alone", x.round(0, 128, 60, -1), 67);
        TubesOfCourt y = Due.line(7, 1, 9);
        y.capsule(CAT, 0, 1, 0);
        DUE.is("seven", y.round(0, 127, 0, -1), 6);
        DUE.is("an eighth", y.round(0, 128, 0, -1), -16);
        TubesOfCourt longest = Due.line(8, 9, 9);
        longest.capsule(3, 9, 9, 0);
        longest.ask(1);
        for (int t = 7; t < 14; t++) {
            longest.tube(0, 1, 9, 9);
        }
        DUE.is("the longest of a line", longest.round(0, 255, 60, -1), 7 * 90 + 8 * 60);
    }

    private static void roundHere() {
        DUE.sentence("and stays s there (where he is now, too, if it is one of them)");
        TubesOfCourt x = Due.line(3, 2, 9);
        x.capsule(CAT, 0, 1, 1);
        DUE.is("here alone", x.round(0, 2, 9, -1), 9);
        DUE.is("here, the first", x.round(0, 2, 9, 0), 1);
        DUE.is("here and there", x.round(0, 6, 9, -1), 20);
        DUE.is("here is one of them", x.round(0, 6, 9, 0), 1);
        DUE.is("there alone", x.round(0, 4, 9, -1), 11);
        DUE.is("there alone is the first", x.round(0, 4, 9, 0), 2);
        DUE.is("no second", x.round(0, 4, 9, 1), -15);
    }

    private static void roundNone() {
        DUE.sentence("least minutes till the last is left; NONE: there is none.");
        TubesOfCourt x = Due.line(4, 1, 9);
        x.desk();
        x.capsule(QUEEN, 0, 1, 1);
        x.capsule(CAT, 0, 1, 1);
        DUE.is("she can't go back", x.round(0, 9, 0, -1), -1);
        DUE.is("nor be told an order", x.round(0, 9, 0, 1), -1);
        DUE.is("down she can", x.round(0, 12, 0, -1), 2);
        DUE.is("desk 4 is joined with none", x.round(1, 17, 0, -1), -1);
        DUE.is("nor be told an order", x.round(1, 17, 0, 0), -1);
        DUE.is("all the others", x.round(1, 15, 0, -1), 4);
        DUE.is("here is always", x.round(0, 2, 0, -1), 0);
    }

    private static void order(TubesOfCourt x, int stay, int... due) {
        for (int i = 0; i < due.length; i++) {
            DUE.is("the " + i + "-th", x.round(0, 31, stay, i), due[i]);
        }
    }

    private static void roundOrder() {
        DUE.sentence("The i-th DESK: of orders with just so many the first by rows.");
        TubesOfCourt x = Due.line(5, 1, 9);
        x.capsule(CAT, 0, 1, 2);
        DUE.is("either side first", x.round(0, 31, 0, -1), 6);
        order(x, 0, 0, 1, 2, 3, 4);
        order(x, 60, 0, 1, 2, 3, 4);
        x.tube(3, 4, 9, 9);
        x.tube(2, 4, 1, 9);
        DUE.is("a nearer one", x.round(0, 31, 0, -1), 5);
        order(x, 0, 2, 3, 4, 1, 0);
        x.send(0, 0, false);
        DUE.is("from an end", x.round(0, 31, 0, -1), 4);
        order(x, 0, 0, 1, 2, 3, 4);
        x.send(0, 4, false);
        DUE.is("from the other end", x.round(0, 31, 0, -1), 4);
        order(x, 0, 4, 3, 2, 1, 0);
        DUE.is("no 5-th", x.round(0, 31, 0, 5), -15);
        DUE.is("no -2-nd", x.round(0, 31, 0, -2), -15);
        DUE.is("far above", x.round(0, 31, 0, Due.HIGH), -15);
        DUE.is("far below", x.round(0, 31, 0, Due.LOW), -15);
    }

    private static void meet() {
        DUE.sentence("MEET of two: the DESK by which the later of their WAYS is least, of several the first; "
            + "the minutes; NONE.");
        TubesOfCourt x = Due.line(4, 1, 9);
        x.desk();
        x.capsule(CAT, 0, 1, 0);
        x.capsule(CAT, 0, 1, 3);
        x.capsule(CAT, 0, 1, 4);
        x.capsule(CAT, 0, 1, 3);
        DUE.is("of 1 and 2 the first", x.meet(0, 1, 0), 1);
        DUE.is("the first for the other, too", x.meet(1, 0, 0), 1);
        DUE.is("the later of 1 and 2", x.meet(0, 1, 1), 2);
        DUE.is("none", x.meet(0, 2, 0), -1);
        DUE.is("none, no minutes", x.meet(0, 2, 1), -1);
        DUE.is("where both are", x.meet(1, 3, 0), 3);
        DUE.is("in 0 minutes", x.meet(1, 3, 1), 0);
        TubesOfCourt eight = Due.withDesks(8);
        eight.tube(0, 7, 2, 9);
        eight.tube(6, 7, 2, 9);
        eight.capsule(CAT, 0, 1, 0);
        eight.capsule(CAT, 0, 1, 6);
        eight.capsule(QUEEN, 0, 1, 7);
        eight.capsule(CAT, 0, 1, 1);
        DUE.is("the eighth", eight.meet(0, 1, 0), 7);
        DUE.is("minutes to the eighth", eight.meet(0, 1, 1), 2);
        DUE.is("where she stays", eight.meet(2, 0, 0), 7);
        DUE.is("the eighth is nowhere for one", eight.meet(3, 2, 0), -1);
    }

    private static void cut() {
        DUE.sentence("CUT: the fewest TUBES which, SHUT besides, leave one no WAY to a DESK (not his own): "
            + "how many; NONE: none are enough (a CAT).");
        TubesOfCourt x = Due.withDesks(4);
        x.capsule(0, 0, 2, 0);
        x.capsule(CAT, 0, 2, 0);
        x.capsule(QUEEN, 0, 2, 0);
        DUE.is("no tubes", x.cut(0, 1, 0), 0);
        for (int t = 0; t < 16; t++) {
            x.tube(t % 2, 1 - t % 2, 1, t < 14 ? 2 : 1);
            int wide = Math.min(t + 1, 14);
            DUE.is("how many of " + (t + 1), x.cut(0, 1, 0), wide);
            DUE.is("down", x.cut(2, 1, 0), (wide + 1) / 2);
            DUE.is("none for a cat", x.cut(1, 1, 0), -1);
        }
        x.capsule(0, 0, 1, 1);
        DUE.is("all sixteen", x.cut(3, 0, 0), 16);
        x.shut(0, true);
        DUE.is("one is shut", x.cut(0, 1, 0), 13);
        DUE.is("his own", x.cut(0, 0, 0), -16);
        DUE.is("a cat's own", x.cut(1, 0, 0), -16);
        TubesOfCourt crossed = Due.withDesks(4);
        crossed.tube(0, 1, 1, 9);
        crossed.tube(1, 3, 1, 9);
        crossed.tube(0, 2, 1, 9);
        crossed.tube(2, 3, 1, 9);
        crossed.tube(1, 2, 1, 9);
        crossed.capsule(0, 0, 1, 0);
        DUE.is("two ways that cross", crossed.cut(0, 3, 0), 2);
        crossed.shut(1, true);
        DUE.is("one is left", crossed.cut(0, 3, 0), 1);
        cutsOfAll();
    }

    /** Eight desks: of ways down from 0 to 7, one is found first that is in the way of two others. */
    private static void cutsOfAll() {
        TubesOfCourt x = Due.withDesks(8);
        x.tube(0, 1, 1, 9);
        x.tube(1, 2, 1, 9);
        x.tube(2, 7, 1, 9);
        x.tube(0, 3, 1, 9);
        x.tube(3, 2, 1, 9);
        x.tube(1, 4, 1, 9);
        x.tube(4, 5, 1, 9);
        x.tube(5, 6, 1, 9);
        x.tube(6, 7, 1, 9);
        x.capsule(QUEEN, 0, 1, 0);
        x.capsule(0, 0, 1, 7);
        DUE.is("a queen", x.cut(0, 7, 0), 2);
        DUE.is("one back", x.cut(1, 0, 0), 2);
        x.shut(8, true);
        DUE.is("a queen by one", x.cut(0, 7, 0), 1);
        DUE.is("one back by one", x.cut(1, 0, 0), 1);
        DUE.is("a queen to where she comes by two", x.cut(0, 2, 0), 2);
        TubesOfCourt narrow = Due.line(3, 1, 9);
        narrow.tube(1, 2, 1, 9);
        narrow.tube(2, 0, 9, 1);
        narrow.capsule(0, 0, 2, 0);
        narrow.capsule(0, 0, 2, 2);
        DUE.is("one at the beginning, two at the end", narrow.cut(0, 2, 0), 1);
        DUE.is("two at the beginning, one at the end", narrow.cut(1, 0, 0), 1);
    }

    private static void keep() {
        DUE.sentence("KEEP: of all TUBES without which he has no WAY to a DESK (he has one now): bits.");
        TubesOfCourt x = Due.line(8, 1, 2);
        x.capsule(0, 0, 2, 0);
        x.capsule(0, 0, 3, 0);
        DUE.is("each of seven", x.cut(0, 7, 1), 127);
        DUE.is("he has none", x.cut(1, 7, 1), 0);
        for (int t = 7; t < 15; t++) {
            x.tube(7, 0, 1, 1);
        }
        x.tube(5, 7, 1, 2);
        DUE.is("the narrow ones are none", x.cut(0, 7, 1), 31);
        x.shut(15, true);
        DUE.is("nor is one that is shut", x.cut(0, 7, 1), 127);
        x.shut(15, false);
        x.shut(6, true);
        DUE.is("the last of sixteen", x.cut(0, 7, 1), 31 | 1 << 15);
        x.send(0, 5, false);
        DUE.is("the last of sixteen alone", x.cut(0, 7, 1), 1 << 15);
        x.send(0, 0, false);
        x.shut(0, true);
        DUE.is("he has none now", x.cut(0, 7, 1), 0);
    }
}
