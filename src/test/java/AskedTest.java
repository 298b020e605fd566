/** Promises 22 to 29: round, meet, cut, stuck, listen, enough, tree, seat. */
public final class AskedTest {
    private static final Due DUE = new Due();

    public static void main(String[] args) {
        round();
        roundOrders();
        meet();
        cut();
        keep();
        stuck();
        stuckRefusals();
        listen();
        enough();
        tree();
        seat();
        DUE.end();
    }

    /** Desks 0 to 3 on a line, each 2 minutes from the next; desk 4 for itself. */
    private static TubesOfCourt line() {
        TubesOfCourt x = Due.withDesks(5);
        x.tube(0, 1, 2, 9);
        x.tube(1, 2, 2, 9);
        x.tube(2, 3, 2, 9);
        x.capsule(0, 0, 5, 1);
        return x;
    }

    private static void round() {
        TubesOfCourt x = line();
        DUE.is("0 and 3 from 1", x.round(0, 9, 0, -1), 8);
        DUE.is("0 ahead", x.round(0, 9, 0, 0), 0);
        DUE.is("3 behind", x.round(0, 9, 0, 1), 3);
        DUE.is("stays at both, passes not counted", x.round(0, 9, 60, -1), 128);
        DUE.is("where he is, too", x.round(0, 2, 7, -1), 7);
        DUE.is("where he is and one", x.round(0, 6, 7, -1), 16);
        DUE.is("none to desk 4", x.round(0, 17, 0, -1), -1);
        DUE.is("none to desk 4, either", x.round(0, 17, 0, 1), -1);
        DUE.is("no such i ahead of none", x.round(0, 17, 0, 2), -15);
        DUE.is("no capsule", x.round(1, 0, 61, 9), -11);
        DUE.is("no such i", x.round(0, 9, 0, 2), -15);
        DUE.is("no such i below", x.round(0, 9, 61, -2), -15);
        DUE.is("no such i, and s", x.round(0, 9, 61, 2), -15);
        DUE.is("s 61", x.round(0, 9, 61, 1), -16);
        DUE.is("s -1", x.round(0, 9, -1, -1), -16);
        DUE.is("no desks", x.round(0, 0, 0, -1), -16);
        DUE.is("no desks, so no i", x.round(0, 0, 0, 5), -16);
        DUE.is("no such desk", x.round(0, 32, 0, -1), -16);
        DUE.is("no such desk, so no i", x.round(0, 33, 0, 9), -16);
        DUE.is("bits below 0", x.round(0, -1, 0, -2), -16);
        DUE.is("counted as -1", x.status(11), 1);
        DUE.is("counted as -5", x.status(15), 4);
        DUE.is("counted as -6", x.status(16), 7);
    }

    private static void roundOrders() {
        TubesOfCourt x = Due.withDesks(8);
        for (int d = 0; d < 7; d++) {
            x.tube(d, d + 1, 1, 9);
        }
        x.capsule(5, 0, 1, 7);
        DUE.is("all eight", x.round(0, 255, 1, -1), 15);
        for (int i = 0; i < 8; i++) {
            DUE.is("back along the line " + i, x.round(0, 255, 1, i), 7 - i);
        }
        TubesOfCourt star = Due.withDesks(5);
        star.tube(4, 0, 1, 9);
        star.tube(4, 1, 1, 9);
        star.tube(4, 2, 1, 9);
        star.tube(4, 3, 1, 9);
        star.capsule(5, 0, 1, 4);
        DUE.is("a star", star.round(0, 31, 0, -1), 7);
        int[] due = {0, 1, 2, 4, 3};
        for (int i = 0; i < 5; i++) {
            DUE.is("of as many the first by rows " + i, star.round(0, 31, 0, i), due[i]);
        }
    }

    private static void meet() {
        TubesOfCourt x = line();
        x.capsule(5, 0, 1, 3);
        x.capsule(4, 0, 5, 3);
        x.capsule(0, 0, 5, 4);
        DUE.is("desk", x.meet(0, 1, 0), 2);
        DUE.is("minutes", x.meet(0, 1, 1), 2);
        DUE.is("a queen stays", x.meet(0, 2, 0), 3);
        DUE.is("minutes", x.meet(0, 2, 1), 4);
        DUE.is("none", x.meet(0, 3, 0), -1);
        DUE.is("none", x.meet(3, 0, 1), -1);
        x.capsule(5, 0, 1, 0);
        DUE.is("of several the first", x.meet(4, 1, 0), 1);
        DUE.is("the later of both", x.meet(4, 1, 1), 4);
        DUE.is("himself", x.meet(0, 0, 2), -11);
        DUE.is("no such one", x.meet(5, 0, 2), -11);
        DUE.is("no such other", x.meet(0, -1, 0), -11);
        DUE.is("what 2", x.meet(0, 1, 2), -15);
        DUE.is("what -1", x.meet(0, 1, -1), -15);
        DUE.is("counted as -1", x.status(11), 3);
        DUE.is("counted as -5", x.status(15), 2);
    }

    private static TubesOfCourt twoSquares() {
        TubesOfCourt x = Due.withDesks(6);
        x.tube(0, 1, 1, 9);
        x.tube(1, 2, 1, 9);
        x.tube(2, 3, 1, 2);
        x.tube(3, 0, 1, 9);
        x.tube(2, 4, 1, 9);
        x.capsule(0, 0, 2, 0);
        x.capsule(5, 0, 2, 0);
        x.capsule(4, 0, 2, 0);
        x.capsule(1, 0, 3, 0);
        return x;
    }

    private static void cut() {
        TubesOfCourt x = twoSquares();
        DUE.is("two ways", x.cut(0, 2, 0), 2);
        DUE.is("one to the end", x.cut(0, 4, 0), 1);
        DUE.is("no way now", x.cut(0, 5, 0), 0);
        DUE.is("a cat", x.cut(1, 2, 0), -1);
        DUE.is("a cat, no way now", x.cut(1, 5, 0), 0);
        DUE.is("a queen", x.cut(2, 2, 0), 1);
        DUE.is("too heavy for one of both", x.cut(3, 2, 0), 1);
        x.shut(4, true);
        DUE.is("shut already", x.cut(0, 4, 0), 0);
        DUE.is("shut for no cat", x.cut(1, 4, 0), -1);
        x.tube(0, 2, 1, 9);
        x.tube(2, 0, 1, 9);
        DUE.is("four", x.cut(0, 2, 0), 4);
        DUE.is("a queen, two", x.cut(2, 2, 0), 2);
        DUE.is("no capsule", x.cut(4, 0, 2), -11);
        DUE.is("no desk", x.cut(0, 6, 2), -11);
        DUE.is("his own, and what 2", x.cut(0, 0, 2), -15);
        DUE.is("what -1", x.cut(0, 1, -1), -15);
        DUE.is("his own", x.cut(0, 0, 0), -16);
        DUE.is("a cat's own", x.cut(1, 0, 1), -16);
        DUE.is("counted as -1", x.status(11), 2);
        DUE.is("counted as -5", x.status(15), 2);
        DUE.is("counted as -6", x.status(16), 2);
        TubesOfCourt full = Due.withDesks(2);
        full.capsule(0, 0, 1, 1);
        for (int t = 0; t < 16; t++) {
            full.tube(t % 2, 1 - t % 2, 1, 1);
        }
        DUE.is("sixteen", full.cut(0, 0, 0), 16);
        DUE.is("none alone", full.cut(0, 0, 1), 0);
    }

    private static void keep() {
        TubesOfCourt x = twoSquares();
        DUE.is("none alone", x.cut(0, 2, 1), 0);
        DUE.is("the last", x.cut(0, 4, 1), 16);
        DUE.is("a cat", x.cut(1, 4, 1), 0);
        DUE.is("no way", x.cut(0, 5, 1), 0);
        DUE.is("a queen", x.cut(2, 4, 1), 19);
        DUE.is("too heavy", x.cut(3, 3, 1), 8);
        x.shut(0, true);
        DUE.is("the other side", x.cut(0, 2, 1), 12);
    }

    private static void stuck() {
        TubesOfCourt x = line();
        Due.putRow(x, 0, 1, 0, 10, 3, 12, 0, 10, 4, 3);
        DUE.is("one desk told: all it comes from", x.stuck(0, 1), 7);
        DUE.is("two behind at 3", x.stuck(0, 2), 0);
        DUE.is("told twice alike", x.stuck(0, 3), 0);
        DUE.is("desk 4 hears nothing", x.stuck(0, 4), 0);
        Due.putRow(x, 1, 3, 0, 0, 3, 4);
        DUE.is("the first, in the minute ahead", x.stuck(1, 2), 1);
        Due.putRow(x, 1, 0, 0, 0, 3, 0);
        DUE.is("the middle, from a minute below 0", x.stuck(1, 2), 2);
        Due.putRow(x, 2, 2, 0, 5, 0, 5, 1, 5);
        DUE.is("twice alike", x.stuck(2, 2), 7);
        DUE.is("at both ends at once", x.stuck(2, 3), 1);
        Due.putRow(x, 3, 2, 0, 5, 0, 6);
        DUE.is("twice unlike", x.stuck(3, 2), 0);
        x.shut(1, true);
        Due.putRow(x, 4, 2, 1, 5, 2, 5);
        DUE.is("a shut one fits by its ends", x.stuck(4, 2), 2);
        DUE.is("it does not go on through it", x.stuck(4, 1), 3);
        Due.putRow(x, 5, 3, (1L << 32), 7L - (5L << 32));
        DUE.is("longs by their lowest 32 bits", x.stuck(5, 1), 3);
    }

    private static void stuckRefusals() {
        TubesOfCourt x = line();
        x.show(1, 0);
        Due.putRow(x, 0, 2, 0, 999, 3, 1000, 5, 1, -1, 1, 0, -1, 0, 0, 0, 0, 0, 0, 0, 0, 0);
        DUE.is("no shelf", x.stuck(8, -1), -1);
        DUE.is("a capsule", x.stuck(1, -1), -2);
        DUE.is("nothing", x.stuck(2, -1), -3);
        DUE.is("n below", x.stuck(0, -1), -4);
        DUE.is("n 0", x.stuck(0, 0), -6);
        DUE.is("n 9 of 9", x.stuck(0, 9), -6);
        DUE.is("fewer", x.stuck(0, 10), -5);
        DUE.is("fewer, wrapping", x.stuck(0, 1073741824), -5);
        DUE.is("999", x.stuck(0, 1), 7);
        DUE.is("1000", x.stuck(0, 2), -6);
        x.set(0, 3, 0);
        DUE.is("desk 5", x.stuck(0, 3), -6);
        x.set(0, 4, 4);
        DUE.is("desk -1", x.stuck(0, 4), -6);
        x.set(0, 6, 4);
        DUE.is("minute -1", x.stuck(0, 5), -6);
        x.set(0, 9, 0);
        DUE.is("8", x.stuck(0, 8), 0);
        DUE.is("9, all of which may be", x.stuck(0, 9), -6);
        x.set(0, 0, -1);
        DUE.is("the first desk", x.stuck(0, 1), -6);
        x.set(0, 0, 5);
        DUE.is("the first desk", x.stuck(0, 1), -6);
        x.set(0, 0, 0);
        x.set(0, 1, 1000);
        DUE.is("the first minute", x.stuck(0, 1), -6);
        x.set(0, 1, -1);
        DUE.is("the first minute", x.stuck(0, 1), -6);
        int[] counted = {1, 1, 1, 1, 2, 11, 0};
        for (int i = 0; i < counted.length; i++) {
            DUE.is("counted " + i, x.status(11 + i), counted[i]);
        }
    }

    private static void listen() {
        TubesOfCourt x = line();
        Due.putRow(x, 0, 2, 0, 10, 1, 10, 2, 12, 3, 14, 4, 9);
        // Behind desk 0 the three tubes come to 1 by 0, -2, -2, to 2 by 2, -2, -4, to 3 by 4, 0, -4.
        DUE.is("desk 2 is the first that tells all", x.listen(0, 1), 2);
        DUE.is("one is left", x.listen(0, 2), -1);
        Due.putRow(x, 1, 2, 3, 10);
        DUE.is("behind desk 3", x.listen(1, 1), 0);
        TubesOfCourt y = Due.withDesks(4);
        y.tube(0, 1, 1, 1);
        y.tube(0, 1, 2, 1);
        y.tube(1, 2, 3, 1);
        y.shut(2, true);
        Due.putRow(y, 0, 2, 1, 0, 0, 0, 2, 0, 3, 0);
        // From the shut tube 2 it comes to 2 at once, from the others never.
        DUE.is("the first that parts them, though none does all", y.listen(0, 1), 0);
        Due.putRow(y, 1, 2, 0, 0, 1, 0);
        DUE.is("two fit, and none can part them", y.listen(1, 2), 2);
        y.shut(2, false);
        Due.putRow(y, 2, 2, 1, 0);
        y.tube(1, 3, 1, 1);
        DUE.is("never told apart from late", y.listen(2, 1), 0);
        TubesOfCourt z = Due.withDesks(2);
        z.tube(0, 1, 1, 1);
        z.tube(0, 1, 1, 1);
        Due.putRow(z, 0, 2, 0, 0, 1, 0);
        DUE.is("all are told", z.listen(0, 2), -1);
        DUE.is("one is not told", z.listen(0, 1), 1);
        z.capsule(0, 0, 1, 0);
        z.show(1, 0);
        DUE.is("no shelf", z.listen(-1, 1), -11);
        DUE.is("a capsule", z.listen(1, 1), -12);
        DUE.is("nothing", z.listen(2, 1), -13);
        DUE.is("n below", z.listen(0, -1), -14);
        DUE.is("fewer", z.listen(0, 3), -15);
        DUE.is("n 0", z.listen(0, 0), -16);
        for (int i = 1; i <= 6; i++) {
            DUE.is("counted " + i, z.status(10 + i), 1);
        }
    }

    private static void enough() {
        TubesOfCourt x = Due.withDesks(3);
        x.tube(0, 1, 9, 9);
        for (int kind : new int[] {0, 1, 2, 3, 5}) {
            x.capsule(kind, 2, 9, 0);
        }
        DUE.is("81 by 1", x.enough(0, 1, 81), 1);
        DUE.is("80", x.enough(0, 1, 80), 2);
        DUE.is("9", x.enough(0, 1, 9), 9);
        DUE.is("8", x.enough(0, 1, 8), -1);
        DUE.is("a king", x.enough(1, 1, 8), 9);
        DUE.is("a rival has the least at 1", x.enough(2, 1, 8), 1);
        DUE.is("a rival, too few", x.enough(2, 1, 7), -1);
        DUE.is("a minister", x.enough(3, 1, 11), 9);
        DUE.is("a minister, too few", x.enough(3, 1, 10), -1);
        DUE.is("a cat", x.enough(4, 1, 9), 1);
        DUE.is("a cat, too few", x.enough(4, 1, 8), -1);
        DUE.is("his own desk", x.enough(0, 0, 0), 1);
        DUE.is("no way", x.enough(0, 2, 500), -1);
        DUE.is("m 501", x.enough(0, 0, 501), -16);
        DUE.is("m -1", x.enough(0, 0, -1), -16);
        DUE.is("no desk", x.enough(0, 3, 501), -11);
        DUE.is("no capsule", x.enough(5, 0, 0), -11);
        DUE.is("pressure is as it was", x.status(3), 5);
        DUE.is("counted as -1", x.status(11), 2);
        DUE.is("counted as -6", x.status(16), 2);
    }

    private static void tree() {
        TubesOfCourt x = new TubesOfCourt();
        DUE.is("no desks", x.tree(0), 0);
        DUE.is("no desks", x.tree(1), 0);
        x.desk();
        DUE.is("one desk", x.tree(0), 0);
        DUE.is("one desk", x.tree(1), 0);
        x.desk();
        DUE.is("not joined", x.tree(0), -1);
        DUE.is("not joined", x.tree(1), -1);
        x.tube(0, 1, 9, 1);
        x.tube(1, 0, 4, 1);
        x.tube(1, 0, 4, 1);
        DUE.is("the shortest", x.tree(0), 4);
        DUE.is("of several the least bits", x.tree(1), 2);
        x.shut(1, true);
        DUE.is("shut or not", x.tree(1), 2);
        x.desk();
        x.tube(2, 0, 4, 1);
        x.tube(2, 1, 4, 1);
        DUE.is("three", x.tree(0), 8);
        DUE.is("three, least bits", x.tree(1), 10);
        x.tube(2, 1, 3, 1);
        DUE.is("a shorter one", x.tree(0), 7);
        DUE.is("a shorter one, bits", x.tree(1), 34);
        DUE.is("what 2", x.tree(2), -15);
        DUE.is("what -1", x.tree(-1), -15);
        DUE.is("counted as -5", x.status(15), 2);
    }

    private static void seat() {
        TubesOfCourt x = Due.withDesks(1);
        x.capsule(0, 0, 1, 0);
        DUE.is("one desk", x.seat(0, 0), 0);
        DUE.is("one desk, latest", x.seat(0, 1), 0);
        for (int d = 0; d < 3; d++) {
            x.desk();
        }
        DUE.is("no ways", x.seat(0, 0), 0);
        DUE.is("no ways, latest", x.seat(0, 1), 9999);
        x.tube(0, 1, 5, 9);
        x.tube(1, 2, 5, 9);
        x.tube(2, 3, 5, 9);
        x.capsule(4, 3, 5, 3);
        x.capsule(5, 0, 1, 3);
        DUE.is("of several the first", x.seat(2, 0), 1);
        DUE.is("latest", x.seat(2, 1), 10);
        DUE.is("a queen", x.seat(1, 0), 0);
        DUE.is("a queen, latest", x.seat(1, 1), 24);
        x.shut(0, true);
        DUE.is("a desk to which is no way", x.seat(1, 1), 9999);
        DUE.is("for no cat", x.seat(2, 1), 10);
        DUE.is("no capsule", x.seat(3, 2), -1);
        DUE.is("no capsule", x.seat(-1, 0), -1);
        DUE.is("what 2", x.seat(0, 2), -5);
        DUE.is("what -1", x.seat(0, -1), -5);
    }
}
