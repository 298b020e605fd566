/** Promises 38 to 40: image, restore, status. */
public final class ImageTest {
    private static final Due DUE = new Due();

    public static void main(String[] args) {
        all();
        shelves();
        fresh();
        status();
        DUE.end();
    }

    private static void all() {
        TubesOfCourt x = Due.withDesks(3);
        DUE.is("none", x.restore(), -6);
        x.tube(0, 1, 2, 9);
        x.tube(1, 2, 3, 9);
        x.shut(1, true);
        x.capsule(5, 3, 1, 0);
        x.ask(7);
        x.seed(42);
        x.send(0, 1, true);
        DUE.is("image", x.image(), 1);
        String ahead = Due.stateOf(x);
        x.desk();
        x.tube(2, 0, 1, 1);
        x.shut(1, false);
        x.shut(0, true);
        x.capsule(0, 0, 1, 0);
        x.capsule(0, 0, 1, 0);
        x.ask(1);
        x.send(0, 2, true);
        x.months(5);
        DUE.is("restore", x.restore(), 1);
        DUE.is("all as it was", Due.stateOf(x).equals(ahead) ? 1 : 0, 1);
        x.send(0, 0, true);
        DUE.is("again", x.restore(), 1);
        DUE.is("all as it was again", Due.stateOf(x).equals(ahead) ? 1 : 0, 1);
        x.desk();
        x.capsule(1, 1, 1, 3);
        DUE.is("a later image", x.image(), 2);
        x.desk();
        x.restore();
        DUE.is("desks of the later", x.status(0), 4);
        DUE.is("refused once", x.status(16), 1);
    }

    private static void shelves() {
        TubesOfCourt x = Due.withDesks(1);
        x.capsule(0, 0, 4, 0);
        x.show(0, 0);
        x.image();
        x.capsule(1, 0, 5, 0);
        x.show(1, 1);
        x.show(2, 0);
        Due.putRow(x, 3, 2, 77);
        Due.putRow(x, 4, 0, 78);
        x.show(0, 1);
        x.show(5, 1);
        x.show(5, -1);
        x.restore();
        DUE.is("shelves are not of the image", x.holds(0), -1);
        DUE.is("none of that number", x.holds(1), -1);
        DUE.is("that of this number", x.holds(2), 0);
        DUE.is("a row stays", x.element(3, 0), 77);
        DUE.is("a row of bytes stays", x.element(4, 0), 78);
        DUE.is("nothing stays", x.holds(5), -1);
        DUE.is("nothing says nothing", x.says(1, 0), -3);
        x.capsule(2, 0, 9, 0);
        DUE.is("nothing yet", x.holds(1), -1);
    }

    private static void fresh() {
        TubesOfCourt x = new TubesOfCourt();
        x.image();
        x.desk();
        x.desk();
        x.tube(0, 1, 1, 1);
        x.shut(0, true);
        x.capsule(0, 0, 1, 0);
        x.send(0, 0, true);
        DUE.is("restore to nothing", x.restore(), 0);
        DUE.is("no desks", x.status(0), 0);
        DUE.is("no shut tubes", x.status(6), 0);
        x.desk();
        x.desk();
        x.tube(0, 1, 1, 1);
        DUE.is("a new desk is not signed", x.signed(0), 0);
        DUE.is("a new tube is not shut", x.tubeOf(0, 4), 0);
    }

    private static void status() {
        TubesOfCourt x = Due.withDesks(3);
        x.tube(0, 1, 2, 9);
        x.tube(1, 2, 3, 9);
        x.tube(1, 2, 3, 9);
        x.tube(1, 2, 3, 9);
        x.capsule(5, 3, 1, 0);
        x.capsule(5, 3, 1, 0);
        x.shut(1, true);
        x.shut(3, true);
        x.ask(8);
        x.send(0, 2, true);
        x.send(1, 1, true);
        x.send(1, 1, true);
        x.seed(5);
        x.act(0, 1, 1);
        int[] due = {3, 4, 2, 8, 7, 3, 2, 5, 2};
        for (int what = 0; what < due.length; what++) {
            DUE.is("status " + what, x.status(what), due[what]);
        }
        for (int what : new int[] {-1, 9, 10, 18, 2147483647, -2147483648}) {
            DUE.is("another what", x.status(what), -1);
        }
        for (int i = 0; i < 5; i++) {
            x.desk();
        }
        x.row(0, 0, -1);
        x.show(9, 0);
        x.row(1, 0, 0);
        x.says(1, 0);
        x.says(1, 0);
        x.says(2, 0);
        x.says(2, 0);
        x.says(2, 0);
        x.desk();
        x.set(1, 0, 0);
        x.ask(0);
        int[] refused = {1, 2, 3, 1, 1, 1, 1};
        for (int i = 0; i < refused.length; i++) {
            DUE.is("refusals " + (i + 1), x.status(11 + i), refused[i]);
        }
        x.image();
        x.restore();
        DUE.is("the image leaves refusals", x.status(13), 3);
    }
}
