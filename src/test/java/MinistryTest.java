/** Promises 1 and 9 to 16: a new object, desk, tube, capsule, shut, ask, what is told of them. */
public final class MinistryTest {
    private static final Due DUE = new Due();

    public static void main(String[] args) {
        newObject();
        desk();
        tube();
        capsule();
        shut();
        ask();
        told();
        DUE.end();
    }

    private static void newObject() {
        TubesOfCourt x = new TubesOfCourt();
        DUE.is("NONE", TubesOfCourt.NONE, -1);
        int[] due = {0, 0, 0, 5, 0, 0, 0, 1, 0};
        for (int what = 0; what < due.length; what++) {
            DUE.is("status " + what, x.status(what), due[what]);
        }
        for (int s = 0; s < 8; s++) {
            DUE.is("holds " + s, x.holds(s), -1);
        }
        DUE.is("no fault yet", x.fault(), -1);
        DUE.is("no trace yet", x.trace(0), -1);
        DUE.is("no image yet", x.restore(), -6);
    }

    private static void desk() {
        TubesOfCourt x = new TubesOfCourt();
        for (int d = 0; d < 8; d++) {
            DUE.is("desk", x.desk(), d);
        }
        DUE.is("room", x.desk(), -7);
        DUE.is("how many", x.status(0), 8);
        DUE.is("refused", x.status(17), 1);
    }

    private static void tube() {
        TubesOfCourt x = Due.withDesks(2);
        DUE.is("from", x.tube(2, 1, 0, 1), -1);
        DUE.is("from below", x.tube(-1, 1, 1, 1), -1);
        DUE.is("to", x.tube(0, 2, 1, 1), -1);
        DUE.is("one and the same", x.tube(1, 1, 1, 1), -6);
        DUE.is("not there, though the same", x.tube(2, 2, 1, 1), -1);
        DUE.is("length 0", x.tube(0, 1, 0, 1), -6);
        DUE.is("length 10", x.tube(0, 1, 10, 1), -6);
        DUE.is("bore 0", x.tube(0, 1, 1, 0), -6);
        DUE.is("bore 10", x.tube(0, 1, 1, 10), -6);
        for (int t = 0; t < 16; t++) {
            DUE.is("tube", x.tube(t % 2, 1 - t % 2, 1 + t % 9, 9 - t % 9), t);
        }
        DUE.is("room", x.tube(0, 1, 1, 1), -7);
        DUE.is("wrong ahead of room", x.tube(0, 0, 1, 1), -6);
        DUE.is("nobody ahead of room", x.tube(0, 2, 1, 1), -1);
        DUE.is("how many", x.status(1), 16);
        DUE.is("refused -1", x.status(11), 5);
        DUE.is("refused -6", x.status(16), 6);
        DUE.is("refused -7", x.status(17), 1);
        DUE.is("none is shut", x.status(6), 0);
    }

    private static void capsule() {
        TubesOfCourt x = Due.withDesks(1);
        DUE.is("kind 7", x.capsule(7, 10, 1, 0), -1);
        DUE.is("kind -1", x.capsule(-1, 0, 1, 0), -1);
        DUE.is("desk", x.capsule(0, 10, 1, 1), -1);
        DUE.is("a 10", x.capsule(0, 10, 1, 0), -6);
        DUE.is("a -1", x.capsule(0, -1, 1, 0), -6);
        DUE.is("weight 0", x.capsule(0, 0, 0, 0), -6);
        DUE.is("weight 10", x.capsule(0, 0, 10, 0), -6);
        DUE.is("a 0, weight 1", x.capsule(0, 0, 1, 0), 0);
        DUE.is("a 9, weight 9", x.capsule(6, 9, 9, 0), 1);
        x.capsule(1, 1, 1, 0);
        x.capsule(1, 1, 1, 0);
        DUE.is("the fifth", x.capsule(1, 1, 1, 0), 4);
        DUE.is("room", x.capsule(1, 1, 1, 0), -7);
        DUE.is("wrong ahead of room", x.capsule(1, 1, 10, 0), -6);
        DUE.is("how many", x.status(2), 5);
        DUE.is("refused -1", x.status(11), 3);
        DUE.is("refused -6", x.status(16), 5);
        DUE.is("refused -7", x.status(17), 1);
    }

    private static void shut() {
        TubesOfCourt x = Due.withDesks(2);
        x.tube(0, 1, 1, 1);
        x.tube(1, 0, 1, 1);
        DUE.is("was open", x.shut(1, true), 0);
        DUE.is("was shut", x.shut(1, true), 1);
        DUE.is("is shut", x.tubeOf(1, 4), 1);
        DUE.is("the other is not", x.tubeOf(0, 4), 0);
        DUE.is("how many", x.status(6), 1);
        DUE.is("was shut yet", x.shut(1, false), 1);
        DUE.is("was open again", x.shut(1, false), 0);
        DUE.is("no tube", x.shut(2, true), -1);
        DUE.is("no tube", x.shut(-1, true), -1);
        DUE.is("none", x.status(6), 0);
    }

    private static void ask() {
        TubesOfCourt x = new TubesOfCourt();
        DUE.is("5 at first", x.ask(1), 5);
        DUE.is("1", x.ask(9), 1);
        DUE.is("0", x.ask(0), -6);
        DUE.is("10", x.ask(10), -6);
        DUE.is("9 yet", x.status(3), 9);
    }

    private static void told() {
        TubesOfCourt x = Due.withDesks(3);
        x.tube(2, 1, 7, 8);
        x.capsule(4, 3, 6, 2);
        int[] ofTube = {2, 1, 7, 8, 0, -5};
        int[] ofCapsule = {4, 3, 6, 2, -5};
        for (int what = 0; what < ofTube.length; what++) {
            DUE.is("tubeOf " + what, x.tubeOf(0, what), ofTube[what]);
        }
        for (int what = 0; what < ofCapsule.length; what++) {
            DUE.is("capsuleOf " + what, x.capsuleOf(0, what), ofCapsule[what]);
        }
        DUE.is("tubeOf -1", x.tubeOf(0, -1), -5);
        DUE.is("no tube", x.tubeOf(1, 0), -5);
        DUE.is("no tube", x.tubeOf(-1, 0), -5);
        DUE.is("capsuleOf -1", x.capsuleOf(0, -1), -5);
        DUE.is("no capsule", x.capsuleOf(1, 0), -5);
        DUE.is("no capsule", x.capsuleOf(-1, 0), -5);
        DUE.is("signed", x.signed(2), 0);
        DUE.is("no desk", x.signed(3), -5);
        DUE.is("no desk", x.signed(-1), -5);
        DUE.is("refused", x.status(15), 10);
        x.send(0, 1, true);
        DUE.is("signed once", x.signed(1), 1);
        DUE.is("not signed", x.signed(2), 0);
        DUE.is("he went", x.capsuleOf(0, 3), 1);
    }
}
