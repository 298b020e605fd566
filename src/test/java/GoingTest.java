/** Promises 19 to 21: time, way, within. */
public final class GoingTest {
    private static final Due DUE = new Due();

    public static void main(String[] args) {
        time();
        way();
        whoMayGo();
        first();
        within();
        DUE.end();
    }

    /** A tube of length 7 and bore 3; weight 3, a 4: 21 by the pressure. */
    private static void time() {
        int[][] due = {
            // pressure 5, 1, 9
            {5, 21, 3},
            {4, 20, 2},
            {4, 2, 20},
            {9, 25, 7},
            {9, 25, 7},
            {7, 7, 7},
            {6, 4, 22},
        };
        for (int kind = 0; kind < 7; kind++) {
            TubesOfCourt x = Due.withDesks(2);
            x.tube(0, 1, 7, 3);
            x.capsule(kind, 4, 3, 0);
            DUE.is("time of " + kind, x.time(0, 0), due[kind][0]);
            x.ask(1);
            DUE.is("time at 1 of " + kind, x.time(0, 0), due[kind][1]);
            x.ask(9);
            DUE.is("time at 9 of " + kind, x.time(0, 0), due[kind][2]);
            x.shut(0, true);
            DUE.is("shut or not, of " + kind, x.time(0, 0), due[kind][2]);
            DUE.is("no capsule", x.time(1, 0), -1);
            DUE.is("no tube", x.time(0, 1), -1);
            DUE.is("neither", x.time(-1, -1), -1);
        }
        TubesOfCourt x = Due.withDesks(2);
        x.tube(0, 1, 1, 1);
        x.tube(0, 1, 1, 2);
        x.capsule(1, 0, 1, 0);
        x.capsule(2, 0, 1, 0);
        x.capsule(6, 0, 1, 0);
        DUE.is("a king has 1 at least", x.time(0, 0), 1);
        DUE.is("a rival has 1 at least", x.time(1, 0), 1);
        DUE.is("dented: 1 at least, then 2 more", x.time(2, 0), 3);
        DUE.is("dented: a bore that isn't just its weight", x.time(2, 1), 1);
    }

    private static void way() {
        TubesOfCourt x = Due.withDesks(5);
        x.tube(0, 1, 9, 9);
        x.tube(0, 2, 1, 9);
        x.tube(2, 3, 1, 9);
        x.tube(3, 1, 1, 9);
        x.capsule(0, 0, 5, 0);
        DUE.is("the least minutes", x.way(0, 1, 0), 3);
        DUE.is("begins with", x.way(0, 1, 1), 1);
        DUE.is("steps of any way", x.way(0, 1, 2), 1);
        DUE.is("own desk", x.way(0, 0, 0), 0);
        DUE.is("own desk, first", x.way(0, 0, 1), -1);
        DUE.is("own desk, steps", x.way(0, 0, 2), 0);
        for (int what = 0; what < 3; what++) {
            DUE.is("no way", x.way(0, 4, what), -1);
        }
        DUE.is("no capsule", x.way(1, 0, 3), -11);
        DUE.is("no capsule", x.way(-1, 0, 0), -11);
        DUE.is("no desk", x.way(0, 5, 3), -11);
        DUE.is("no desk", x.way(0, -1, 0), -11);
        DUE.is("what 3", x.way(0, 1, 3), -15);
        DUE.is("what -1", x.way(0, 1, -1), -15);
        DUE.is("counted as -1", x.status(11), 4);
        DUE.is("counted as -5", x.status(15), 2);
    }

    private static void whoMayGo() {
        for (int kind = 0; kind < 7; kind++) {
            TubesOfCourt x = Due.withDesks(2);
            x.tube(0, 1, 1, 4);
            x.capsule(kind, 0, 4, 0);
            x.capsule(kind, 0, 4, 1);
            x.capsule(kind, 0, 5, 0);
            boolean cat = kind == 5;
            DUE.is("forth " + kind, x.way(0, 1, 2), 1);
            DUE.is("back " + kind, x.way(1, 0, 2), kind == 4 ? -1 : 1);
            DUE.is("too heavy " + kind, x.way(2, 1, 2), cat ? 1 : -1);
            x.shut(0, true);
            DUE.is("shut " + kind, x.way(0, 1, 2), cat ? 1 : -1);
            DUE.is("shut, back " + kind, x.way(1, 0, 2), cat ? 1 : -1);
        }
    }

    private static void first() {
        TubesOfCourt x = Due.withDesks(4);
        x.tube(3, 2, 2, 9);
        x.tube(2, 0, 2, 9);
        x.tube(1, 0, 1, 9);
        x.tube(1, 3, 3, 9);
        x.capsule(5, 0, 1, 0);
        DUE.is("two ways of 4 minutes", x.way(0, 3, 0), 4);
        DUE.is("the first by numbers", x.way(0, 3, 1), 1);
        x.tube(0, 3, 4, 9);
        DUE.is("the first yet", x.way(0, 3, 1), 1);
        DUE.is("fewest steps", x.way(0, 3, 2), 1);
        x.capsule(4, 0, 1, 0);
        DUE.is("a queen down", x.way(1, 3, 1), 4);
        x.capsule(0, 0, 1, 3);
        DUE.is("back, the first of two", x.way(2, 0, 1), 4);
    }

    private static void within() {
        TubesOfCourt x = Due.withDesks(4);
        x.tube(0, 1, 2, 3);
        x.tube(2, 1, 3, 1);
        x.tube(2, 3, 1, 9);
        x.capsule(5, 0, 1, 0);
        x.capsule(4, 0, 1, 0);
        x.capsule(0, 0, 2, 3);
        DUE.is("0 minutes: his own", x.within(0, 0), 1);
        DUE.is("1 minute", x.within(0, 1), 1);
        DUE.is("2 minutes", x.within(0, 2), 3);
        DUE.is("4 minutes", x.within(0, 4), 3);
        DUE.is("5 minutes", x.within(0, 5), 7);
        DUE.is("500 minutes", x.within(0, 500), 15);
        DUE.is("a queen, down only", x.within(1, 500), 3);
        DUE.is("too narrow", x.within(2, 500), 12);
        DUE.is("501 minutes", x.within(0, 501), -6);
        DUE.is("-2 minutes", x.within(0, -2), -6);
        DUE.is("no capsule", x.within(3, 501), -1);
        DUE.is("no capsule", x.within(-1, 0), -1);
        DUE.is("dire: one way is enough", x.within(1, -1), 7);
        DUE.is("dire: wide enough", x.within(2, -1), 5);
        x.shut(0, true);
        x.shut(2, true);
        DUE.is("dire: open ones", x.within(1, -1), 2);
        DUE.is("dire: a cat", x.within(0, -1), 7);
    }
}
