/** Promises 17 and 18: plan and fault. */
public final class PlanTest {
    private static final Due DUE = new Due();

    public static void main(String[] args) {
        told();
        rows();
        faults();
        numbers();
        room();
        nothingIsChanged();
        DUE.end();
    }

    private static void told() {
        TubesOfCourt x = new TubesOfCourt();
        Due.putText(x, 0, "desk;desk;desk;tube 0 1 3 4;tube 01 02 09 1;capsule 6 9 5 2;shut 1;pressure 07;"
            + "capsule 0 0 1 0;shut 0;open 00");
        DUE.is("plan", x.plan(0), 11);
        DUE.is("no fault", x.fault(), -1);
        int[] status = {3, 2, 2, 7, 0, 0, 1, 1};
        for (int what = 0; what < status.length; what++) {
            DUE.is("status " + what, x.status(what), status[what]);
        }
        int[] tube = {1, 2, 9, 1, 1};
        for (int what = 0; what < tube.length; what++) {
            DUE.is("tubeOf " + what, x.tubeOf(1, what), tube[what]);
        }
        int[] capsule = {6, 9, 5, 2};
        for (int what = 0; what < capsule.length; what++) {
            DUE.is("capsuleOf " + what, x.capsuleOf(0, what), capsule[what]);
        }
        Due.putText(x, 1, "desk");
        DUE.is("over what there is", x.plan(1), 1);
        DUE.is("a desk more", x.status(0), 4);
    }

    private static void rows() {
        TubesOfCourt x = Due.withDesks(1);
        x.capsule(0, 0, 1, 0);
        x.show(0, 0);
        Due.putText(x, 2, "x");
        DUE.is("fault", x.plan(2), -6);
        DUE.is("its place", x.fault(), 0);
        DUE.is("a capsule", x.plan(0), -2);
        DUE.is("nothing", x.plan(1), -3);
        DUE.is("no shelf", x.plan(8), -1);
        DUE.is("none of them came to a row", x.fault(), 0);
        long high = 1L << 32;
        Due.putRow(x, 3, 3, high + 'd', 'e' - high, 's', 'k');
        DUE.is("longs by their lowest 32 bits", x.plan(3), 1);
        DUE.is("the latest has none", x.fault(), -1);
        Due.putRow(x, 3, 2, 'd', 'e', 's', 256 + 'k');
        DUE.is("ints as they are", x.plan(3), -6);
        DUE.is("at the last", x.fault(), 3);
        Due.putRow(x, 3, 1, 'd', -1);
        x.plan(3);
        DUE.is("an element below 0", x.fault(), 1);
    }

    /** With 3 desks, 2 tubes, no capsule. */
    private static void fault(String text, int due) {
        TubesOfCourt x = Due.withDesks(3);
        x.tube(0, 1, 1, 1);
        x.tube(1, 2, 1, 1);
        Due.putText(x, 0, text);
        String ahead = Due.stateOf(x);
        DUE.is("plan of '" + text + "'", x.plan(0), -6);
        DUE.is("fault of '" + text + "'", x.fault(), due);
        DUE.is("nothing told of '" + text + "'", Due.stateOf(x).equals(ahead) ? 1 : 0, 1);
        DUE.is("refused '" + text + "'", x.status(16), 1);
    }

    private static void faults() {
        fault("", 0);
        fault("x", 0);
        fault(" desk", 0);
        fault(";", 0);
        fault("Desk", 0);
        fault("d", 1);
        fault("des", 3);
        fault("dexk", 2);
        fault("deskk", 4);
        fault("desk ", 4);
        fault("desk;", 5);
        fault("desk;;", 5);
        fault("desk; desk", 5);
        fault("desk;desx", 8);
        fault("tube", 4);
        fault("tube;", 4);
        fault("tube0", 4);
        fault("tube ", 5);
        fault("tube  0", 5);
        fault("tube x", 5);
        fault("tube 0", 6);
        fault("tube 0;", 6);
        fault("tube 0 1 1", 10);
        fault("tube 0 1 1 ", 11);
        fault("tube 0 1 1 1 ", 12);
        fault("tube 0 1 1 1 1", 12);
        fault("capsule 0 0 1 0 ", 15);
        fault("shut", 4);
        fault("open 0 ", 6);
        fault("open;", 4);
        fault("pressure", 8);
        fault("pressure -", 9);
        fault("pressures", 8);
        fault("desk;shut 1;shut 2", 17);
    }

    private static void numbers() {
        fault("tube 3 0 1 1", 5);
        fault("tube 9", 5);
        fault("tube 10", 5);
        fault("tube 012", 7);
        fault("tube 0 0 1 1", 7);
        fault("tube 0 00 1 1", 7);
        fault("tube 0 3 1 1", 7);
        fault("tube 0 1 0 1", 9);
        fault("tube 0 1 00 1", 9);
        fault("tube 0 1 10 1", 9);
        fault("tube 0 1 9 10", 11);
        fault("tube 0 1 9 0x", 11);
        fault("capsule 7 0 1 0", 8);
        fault("capsule 10 0 1 0", 8);
        fault("capsule 6 10 1 0", 10);
        fault("capsule 6 9 0 0", 12);
        fault("capsule 6 9 10 0", 12);
        fault("capsule 6 9 9 3", 14);
        fault("shut 2", 5);
        fault("open 16", 5);
        fault("shut 001", 7);
        fault("pressure 0", 9);
        fault("pressure 10", 9);
        fault("pressure 123", 9);
        fault("pressure 0;desk", 9);
        fault("pressure 012", 11);
        fault("pressure 9.", 10);
    }

    private static void room() {
        TubesOfCourt x = Due.withDesks(7);
        for (int t = 0; t < 15; t++) {
            x.tube(0, 1, 1, 1);
        }
        for (int c = 0; c < 4; c++) {
            x.capsule(0, 0, 1, 0);
        }
        roomFault(x, "desk;desk", 5);
        roomFault(x, "desk;deskx", 5);
        roomFault(x, "desk;des", 8);
        roomFault(x, "desk;desx", 8);
        roomFault(x, "tube 0 1 1 1;tube 0 1 1 1", 13);
        roomFault(x, "tube 0 1 1 1;tube", 13);
        roomFault(x, "tube 0 1 1 1;tub", 16);
        roomFault(x, "capsule 0 0 1 0;capsule 9", 16);
        roomFault(x, "capsule 0 0 1 0;capsula", 22);
        Due.putText(x, 0, "desk;tube 7 0 9 9;capsule 5 5 5 7;shut 15;pressure 1");
        DUE.is("all there is room for", x.plan(0), 5);
        roomFault(x, "desk", 0);
        roomFault(x, "tube 0 1 1 1", 0);
        roomFault(x, "capsule 0 0 1 0", 0);
        roomFault(x, "open 15;desk", 8);
        DUE.is("shut yet", x.tubeOf(15, 4), 1);
    }

    private static void roomFault(TubesOfCourt x, String text, int due) {
        Due.putText(x, 0, text);
        DUE.is("plan of '" + text + "'", x.plan(0), -6);
        DUE.is("fault of '" + text + "'", x.fault(), due);
    }

    private static void nothingIsChanged() {
        TubesOfCourt x = Due.withDesks(2);
        x.tube(0, 1, 1, 1);
        Due.putText(x, 0, "desk;shut 0;pressure 3;tube 2 1 1 1;capsule 0 0 1 2;pressure 10");
        DUE.is("plan", x.plan(0), -6);
        DUE.is("desks", x.status(0), 2);
        DUE.is("tubes", x.status(1), 1);
        DUE.is("capsules", x.status(2), 0);
        DUE.is("pressure", x.status(3), 5);
        DUE.is("shut", x.status(6), 0);
        x.seed(99);
        x.image();
        x.restore();
        DUE.is("the image leaves the fault", x.fault(), 61);
    }
}
