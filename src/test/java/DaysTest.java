/** Promises 30 to 35: judge, behind, done, send, months, seed. */
public final class DaysTest {
    private static final Due DUE = new Due();

    public static void main(String[] args) {
        judge();
        behind();
        done();
        refusals();
        send();
        months();
        seed();
        signedHasAnEnd();
        DUE.end();
    }

    private static TubesOfCourt court() {
        TubesOfCourt x = Due.withDesks(4);
        x.tube(0, 1, 2, 9);
        x.tube(1, 2, 3, 9);
        x.capsule(5, 0, 1, 0);
        x.capsule(4, 2, 5, 0);
        return x;
    }

    private static void judge() {
        TubesOfCourt x = court();
        Due.putRow(x, 0, 1, 21, 0, 120, 100);
        DUE.is("none of none", x.judge(0, 0), -1);
        DUE.is("all may be", x.judge(0, 3), -1);
        DUE.is("a queen can't go back", x.judge(0, 4), 3);
        int[] wrong = {200, 2, 19, 40, 30, -1, -100, 130, 1000};
        for (int leg : wrong) {
            Due.putRow(x, 1, 2, 0, leg, -1);
            DUE.is("leg " + leg, x.judge(1, 3), 1);
            DUE.is("leg " + leg + " is not looked at", x.judge(1, 1), -1);
        }
        Due.putRow(x, 2, 3, (1L << 33) + 121, 1L << 31);
        DUE.is("longs by their lowest 32 bits", x.judge(2, 1), -1);
        DUE.is("which may be below 0", x.judge(2, 2), 1);
        DUE.is("nothing is changed", x.capsuleOf(1, 3), 0);
        DUE.is("nobody signed", x.status(5), 0);
    }

    private static void behind() {
        TubesOfCourt x = court();
        // 0 to 2: 5 minutes; 1 to 1: 2 + 2, signs; 0 stays; 0 to 1: 3, signs; 1 to 2: 3 + 2.
        Due.putRow(x, 0, 1, 20, 111, 20, 11, 120);
        DUE.is("minutes", x.behind(0, 5, 0), 17);
        DUE.is("signed", x.behind(0, 5, 1), 2);
        DUE.is("where 0 is", x.behind(0, 5, 2), 1);
        DUE.is("minutes of two", x.behind(0, 2, 0), 9);
        DUE.is("where 0 is then", x.behind(0, 2, 2), 2);
        DUE.is("of none", x.behind(0, 0, 0), 0);
        DUE.is("of none, where 0 is", x.behind(0, 0, 2), 0);
        DUE.is("what 3", x.behind(0, 5, 3), -5);
        DUE.is("what -1", x.behind(0, 5, -1), -5);
        x.set(0, 4, 100);
        DUE.is("wrong", x.behind(0, 5, 0), -6);
        DUE.is("not yet", x.behind(0, 4, 0), 12);
        DUE.is("nothing is changed", x.status(4), 0);
        DUE.is("he is where he was", x.capsuleOf(0, 3), 0);
        TubesOfCourt y = new TubesOfCourt();
        y.row(0, 0, 1);
        DUE.is("no capsule 0", y.behind(0, 0, 2), -5);
        DUE.is("minutes without one", y.behind(0, 0, 0), 0);
        DUE.is("wrong without one", y.behind(0, 1, 1), -6);
    }

    private static void done() {
        TubesOfCourt x = court();
        Due.putRow(x, 0, 1, 20, 111, 20, 11, 120, 100);
        DUE.is("wrong", x.done(0, 6), -6);
        DUE.is("nothing of it", x.status(4), 0);
        DUE.is("done", x.done(0, 5), 17);
        DUE.is("signed", x.signed(1), 2);
        DUE.is("at", x.capsuleOf(0, 3), 1);
        DUE.is("at", x.capsuleOf(1, 3), 2);
        DUE.is("all the minutes", x.done(0, 1), 20);
        DUE.is("minutes", x.status(4), 20);
        DUE.is("none", x.done(0, 0), 20);
    }

    private static void refusals() {
        TubesOfCourt x = court();
        x.show(1, 0);
        x.row(0, 0, 41);
        for (int call = 0; call < 3; call++) {
            String name = call == 0 ? "judge" : call == 1 ? "behind" : "done";
            int farther = call == 0 ? -10 : 0;
            DUE.is(name + ": no shelf", leg(x, call, 8, -1), farther - 1);
            DUE.is(name + ": a capsule", leg(x, call, 1, -1), farther - 2);
            DUE.is(name + ": nothing", leg(x, call, 2, -1), farther - 3);
            DUE.is(name + ": below", leg(x, call, 0, -1), farther - 4);
            DUE.is(name + ": fewer", leg(x, call, 0, 42), farther - 5);
            DUE.is(name + ": above 40", leg(x, call, 0, 41), farther - 6);
            DUE.is(name + ": 40", leg(x, call, 0, 40), call == 0 ? -1 : 0);
        }
        DUE.is("above 40, and what 3", x.behind(0, 41, 3), -5);
        int[] counted = {3, 3, 3, 3, 4, 3, 0};
        for (int i = 0; i < counted.length; i++) {
            DUE.is("counted " + i, x.status(11 + i), counted[i]);
        }
    }

    private static int leg(TubesOfCourt x, int call, int s, int n) {
        return call == 0 ? x.judge(s, n) : call == 1 ? x.behind(s, n, 0) : x.done(s, n);
    }

    private static void send() {
        TubesOfCourt x = court();
        DUE.is("send", x.send(0, 2, true), 5);
        DUE.is("minutes", x.status(4), 5);
        DUE.is("signed", x.signed(2), 1);
        DUE.is("back", x.send(0, 1, false), 3);
        DUE.is("not signed", x.signed(1), 0);
        DUE.is("he is there", x.send(0, 1, true), 0);
        DUE.is("signed there", x.signed(1), 1);
        DUE.is("minutes of both", x.status(4), 8);
        DUE.is("no way", x.send(0, 3, true), -6);
        DUE.is("no capsule", x.send(2, 0, true), -1);
        DUE.is("no desk", x.send(0, 4, true), -1);
        DUE.is("no desk", x.send(0, -1, true), -1);
        DUE.is("signed together", x.status(5), 2);
    }

    /** Draws as the document tells them, with what they must come to. */
    private static void months() {
        TubesOfCourt x = court();
        TubesOfCourt y = court();
        int seed = -77;
        x.seed(seed);
        for (int i = 0; i < 60; i++) {
            int[] draws = new int[3];
            int[] below = {2, 4, 2};
            for (int k = 0; k < 3; k++) {
                seed = seed * 1103515245 + 12345;
                draws[k] = (seed >>> 16) % below[k];
            }
            y.send(draws[0], draws[1], draws[2] == 1);
        }
        DUE.is("months", x.months(60), y.status(4));
        DUE.is("seed", x.status(7), seed);
        DUE.is("somebody has no way", y.status(16) > 0 ? 1 : 0, 1);
        for (int d = 0; d < 4; d++) {
            DUE.is("signed " + d, x.signed(d), y.signed(d));
        }
        DUE.is("at", x.capsuleOf(0, 3), y.capsuleOf(0, 3));
        DUE.is("at", x.capsuleOf(1, 3), y.capsuleOf(1, 3));
        DUE.is("0", x.months(0), -6);
        DUE.is("61", x.months(61), -6);
        DUE.is("-1", x.months(-1), -6);
        DUE.is("seed as it was", x.status(7), seed);
        DUE.is("one more", x.months(1) >= y.status(4) ? 1 : 0, 1);
        DUE.is("no capsules", Due.withDesks(3).months(0), -5);
    }

    private static void seed() {
        TubesOfCourt x = new TubesOfCourt();
        DUE.is("1 at first", x.seed(-2147483648), 1);
        DUE.is("any", x.seed(0), -2147483648);
        DUE.is("0", x.status(7), 0);
    }

    private static void signedHasAnEnd() {
        TubesOfCourt x = Due.withDesks(1);
        x.capsule(0, 0, 1, 0);
        x.row(0, 0, 40);
        for (int i = 0; i < 40; i++) {
            x.set(0, i, 1);
        }
        for (int i = 0; i < 24; i++) {
            x.done(0, 40);
        }
        DUE.is("960", x.signed(0), 960);
        DUE.is("the day that comes to 999", x.done(0, 40), 0);
        DUE.is("999 at most", x.signed(0), 999);
        DUE.is("a leg more", x.send(0, 0, true), 0);
        DUE.is("999 yet", x.status(5), 999);
        DUE.is("a told day counts its own", x.behind(0, 40, 1), 40);
    }
}
