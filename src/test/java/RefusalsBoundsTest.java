/** REFUSALS: each number at each call that names it, and of several that fit the first. */
public final class RefusalsBoundsTest {
    private static final Due DUE = new Due();

    /** Shelves of court(). */
    private static final int KNOCKS = 0;
    private static final int LEGS = 1;
    private static final int HELD = 2;
    private static final int EMPTY = 3;
    private static final int LONGS = 4;
    private static final int FULL = 5;

    /** How many desks, tubes and capsules court() has. */
    private static final int DESKS = 4;
    private static final int TUBES = 2;
    private static final int CAPSULES = 2;

    private interface Call {
        long of(TubesOfCourt x);
    }

    private interface CallWith {
        long of(TubesOfCourt x, int v);
    }

    public static void main(String[] args) {
        noShelf();
        noCapsule();
        noDesk();
        noTubeNoKind();
        other();
        nothing();
        below();
        beyond();
        wrong();
        room();
        theFirstOfShelves();
        theFirstOfTheMinistry();
        theFirstOfTheAsked();
        theFirstOfDays();
        notRefused();
        DUE.end();
    }

    /** Desks 0 to 2 on a line, desk 3 apart; an ordinary capsule and a queen, both at 1. */
    private static TubesOfCourt court() {
        TubesOfCourt x = Due.line(3, 2, 9);
        x.desk();
        x.capsule(0, 1, 2, 1);
        x.capsule(4, 1, 2, 1);
        Due.putRow(x, KNOCKS, 2, 0, 5, 1, 7, 9, 9);
        x.row(LEGS, 1, 50);
        x.set(LEGS, 1, 9);
        x.show(HELD, 1);
        Due.putRow(x, LONGS, 3, 1, 2);
        x.row(FULL, 1, 160);
        return x;
    }

    private static void refuses(String what, Call call, int due) {
        refuses(court(), what, call, due);
    }

    private static void refuses(TubesOfCourt x, String what, Call call, int due) {
        int number = due < -10 ? -10 - due : -due;
        int[] counts = new int[8];
        String ahead = Due.stateOf(x);
        for (int i = 1; i <= 7; i++) {
            counts[i] = x.status(10 + i);
        }
        DUE.is(what, call.of(x), due);
        for (int i = 1; i <= 7; i++) {
            DUE.is(what + " counts -" + i, x.status(10 + i) - counts[i], i == number ? 1 : 0);
        }
        DUE.holds(what + " changes nothing", Due.stateOf(x).equals(ahead));
    }

    /** Numbers that aren't there, as there are so many from 0 on. */
    private static void notThere(String what, CallWith call, int many, int due) {
        for (int v : new int[] {Due.LOW, -2, -1, many, many + 1, Due.HIGH}) {
            refuses(what + " " + v, x -> call.of(x, v), due);
        }
    }

    private static void noShelf() {
        DUE.sentence("-1 NOBODY: no such SHELF");
        notThere("row", (x, s) -> x.row(s, 0, 1), 8, -1);
        notThere("set", (x, s) -> x.set(s, 0, 1), 8, -1);
        notThere("copy from", (x, s) -> x.copy(s, LEGS, 0, 0, 1), 8, -1);
        notThere("copy to", (x, s) -> x.copy(LEGS, s, 0, 0, 1), 8, -1);
        notThere("show", (x, s) -> x.show(s, 0), 8, -1);
        notThere("says", (x, s) -> x.says(s, 0), 8, -1);
        notThere("plan", (x, s) -> x.plan(s), 8, -1);
        notThere("stuck", (x, s) -> x.stuck(s, 1), 8, -1);
        notThere("listen", (x, s) -> x.listen(s, 1), 8, -11);
        notThere("judge", (x, s) -> x.judge(s, 1), 8, -11);
        notThere("behind", (x, s) -> x.behind(s, 1, 0), 8, -1);
        notThere("done", (x, s) -> x.done(s, 1), 8, -1);
    }

    private static void noCapsule() {
        DUE.sentence("no such SHELF, CAPSULE,");
        for (int c : new int[] {Due.LOW, -2, CAPSULES, CAPSULES + 1, 5, Due.HIGH}) {
            refuses("show " + c, x -> x.show(0, c), -1);
        }
        notThere("time", (x, c) -> x.time(c, 0), CAPSULES, -1);
        notThere("way", (x, c) -> x.way(c, 0, 0), CAPSULES, -11);
        notThere("within", (x, c) -> x.within(c, 0), CAPSULES, -1);
        notThere("dire", (x, c) -> x.within(c, -1), CAPSULES, -1);
        notThere("round", (x, c) -> x.round(c, 1, 0, 0), CAPSULES, -11);
        notThere("meet, one", (x, c) -> x.meet(c, 0, 0), CAPSULES, -11);
        notThere("meet, other", (x, c) -> x.meet(0, c, 0), CAPSULES, -11);
        notThere("cut", (x, c) -> x.cut(c, 0, 0), CAPSULES, -11);
        notThere("enough", (x, c) -> x.enough(c, 0, 0), CAPSULES, -11);
        notThere("seat", (x, c) -> x.seat(c, 0), CAPSULES, -1);
        notThere("send", (x, c) -> x.send(c, 0, true), CAPSULES, -1);
    }

    private static void noDesk() {
        DUE.sentence("no such SHELF, CAPSULE, DESK,");
        notThere("tube from", (x, d) -> x.tube(d, 0, 1, 1), DESKS, -1);
        notThere("tube to", (x, d) -> x.tube(0, d, 1, 1), DESKS, -1);
        notThere("tube, one and the same", (x, d) -> x.tube(d, d, 1, 1), DESKS, -1);
        notThere("capsule", (x, d) -> x.capsule(0, 0, 1, d), DESKS, -1);
        notThere("way", (x, d) -> x.way(0, d, 0), DESKS, -11);
        notThere("cut", (x, d) -> x.cut(0, d, 0), DESKS, -11);
        notThere("enough", (x, d) -> x.enough(0, d, 0), DESKS, -11);
        notThere("send", (x, d) -> x.send(0, d, true), DESKS, -1);
    }

    private static void noTubeNoKind() {
        DUE.sentence("no such SHELF, CAPSULE, DESK, TUBE, KIND.");
        notThere("shut", (x, t) -> x.shut(t, true), TUBES, -1);
        notThere("open", (x, t) -> x.shut(t, false), TUBES, -1);
        notThere("time", (x, t) -> x.time(0, t), TUBES, -1);
        notThere("capsule", (x, kind) -> x.capsule(kind, 0, 1, 0), 7, -1);
        notThere("says", (x, kind) -> x.says(HELD, kind), 7, -1);
    }

    private static void other() {
        DUE.sentence("-2 OTHER: a SHELF that holds a CAPSULE where a ROW is wanted, or the other way about, "
            + "ROWS of two SORTS, a CAPSULE that isn't of the KIND wanted, or one under it.");
        refuses("set", x -> x.set(HELD, 0, 1), -2);
        refuses("copy from", x -> x.copy(HELD, LEGS, 0, 0, 1), -2);
        refuses("copy to", x -> x.copy(LEGS, HELD, 0, 0, 1), -2);
        refuses("copy of two sorts", x -> x.copy(LEGS, KNOCKS, 0, 0, 1), -2);
        refuses("copy of two sorts, none", x -> x.copy(KNOCKS, LEGS, 0, 0, 0), -2);
        refuses("plan", x -> x.plan(HELD), -2);
        refuses("stuck", x -> x.stuck(HELD, 1), -2);
        refuses("listen", x -> x.listen(HELD, 1), -12);
        refuses("judge", x -> x.judge(HELD, 0), -12);
        refuses("behind", x -> x.behind(HELD, 0, 0), -2);
        refuses("done", x -> x.done(HELD, 0), -2);
        refuses("a row says", x -> x.says(LEGS, 0), -2);
        for (int kind : new int[] {1, 2, 5, 6}) {
            refuses("a queen as " + kind, x -> x.says(HELD, kind), -2);
        }
        for (int kind = 1; kind < 7; kind++) {
            int asked = kind;
            TubesOfCourt x = court();
            x.show(HELD, 0);
            refuses(x, "an ordinary one as " + kind, y -> y.says(HELD, asked), -2);
        }
    }

    private static void nothing() {
        DUE.sentence("-3 NOTHING: a SHELF that holds NOTHING.");
        refuses("set", x -> x.set(EMPTY, 0, 1), -3);
        refuses("copy from", x -> x.copy(EMPTY, LEGS, 0, 0, 0), -3);
        refuses("copy to", x -> x.copy(LEGS, EMPTY, 0, 0, 0), -3);
        refuses("copy of nothing to nothing", x -> x.copy(EMPTY, EMPTY, 0, 0, 0), -3);
        refuses("says", x -> x.says(EMPTY, 0), -3);
        refuses("plan", x -> x.plan(EMPTY), -3);
        refuses("stuck", x -> x.stuck(EMPTY, 1), -3);
        refuses("listen", x -> x.listen(EMPTY, 1), -13);
        refuses("judge", x -> x.judge(EMPTY, 0), -13);
        refuses("behind", x -> x.behind(EMPTY, 0, 0), -3);
        refuses("done", x -> x.done(EMPTY, 0), -3);
        TubesOfCourt x = court();
        x.show(LEGS, -1);
        refuses(x, "a row that was taken away", y -> y.set(LEGS, 0, 1), -3);
    }

    private static void below() {
        DUE.sentence("-4 BELOW: a size below 0.");
        for (int n : new int[] {-1, -2, Due.LOW}) {
            refuses("row", x -> x.row(0, 0, n), -4);
            refuses("copy", x -> x.copy(LEGS, LEGS, 0, 0, n), -4);
            refuses("stuck", x -> x.stuck(KNOCKS, n), -4);
            refuses("listen", x -> x.listen(KNOCKS, n), -14);
            refuses("judge", x -> x.judge(LEGS, n), -14);
            refuses("behind", x -> x.behind(LEGS, n, 0), -4);
            refuses("done", x -> x.done(LEGS, n), -4);
        }
    }

    private static void beyond() {
        DUE.sentence("-5 BEYOND: an element that isn't there; nothing such to be told of.");
        notThere("set", (x, i) -> x.set(KNOCKS, i, 1), 6, -5);
        notThere("set in a full row", (x, i) -> x.set(FULL, i, 1), 160, -5);
        notThere("copy's i", (x, i) -> x.copy(LONGS, LONGS, i, 0, 1), 2, -5);
        notThere("copy's j", (x, j) -> x.copy(LONGS, LONGS, 0, j, 1), 2, -5);
        notThere("capsuleOf", (x, c) -> x.capsuleOf(c, 0), CAPSULES, -5);
        notThere("capsuleOf's what", (x, what) -> x.capsuleOf(0, what), 4, -5);
        notThere("tubeOf", (x, t) -> x.tubeOf(t, 0), TUBES, -5);
        notThere("tubeOf's what", (x, what) -> x.tubeOf(0, what), 5, -5);
        notThere("signed", (x, d) -> x.signed(d), DESKS, -5);
        notThere("way's what", (x, what) -> x.way(0, 0, what), 3, -15);
        for (int i : new int[] {Due.LOW, -2, 2, 3, Due.HIGH}) {
            refuses("round's i " + i, x -> x.round(0, 3, 0, i), -15);
        }
        notThere("meet's what", (x, what) -> x.meet(0, 1, what), 2, -15);
        notThere("cut's what", (x, what) -> x.cut(0, 0, what), 2, -15);
        notThere("tree's what", (x, what) -> x.tree(what), 2, -15);
        notThere("seat's what", (x, what) -> x.seat(0, what), 2, -5);
        notThere("behind's what", (x, what) -> x.behind(LEGS, 1, what), 3, -5);
        for (int n : new int[] {51, 161, 1073741824, Due.HIGH}) {
            refuses("judge", x -> x.judge(LEGS, n), -15);
            refuses("behind", x -> x.behind(LEGS, n, 0), -5);
            refuses("done", x -> x.done(LEGS, n), -5);
        }
        for (int n : new int[] {4, 8, 9, 1073741824, 1073741825, Due.HIGH}) {
            refuses("stuck", x -> x.stuck(KNOCKS, n), -5);
            refuses("listen", x -> x.listen(KNOCKS, n), -15);
        }
        TubesOfCourt x = Due.withDesks(1);
        x.row(0, 0, 1);
        refuses(x, "where no capsule is", y -> y.behind(0, 0, 2), -5);
        refuses(x, "months of no capsules", y -> y.months(1), -5);
        x.row(0, 0, 3);
        refuses(x, "three elements are no two knocks", y -> y.stuck(0, 2), -5);
    }

    private static void wrong() {
        DUE.sentence("-6 WRONG: a number that may not be, a FAULT, what can't be as things stand.");
        notThere("a sort", (x, sort) -> x.row(0, sort, 1), 4, -6);
        for (int v : new int[] {Due.LOW, -1, 0, 10, Due.HIGH}) {
            refuses("a length", x -> x.tube(0, 1, v, 1), -6);
            refuses("a bore", x -> x.tube(0, 1, 1, v), -6);
            refuses("a weight", x -> x.capsule(0, 0, v, 0), -6);
            refuses("a pressure", x -> x.ask(v), -6);
        }
        notThere("a capsule's a", (x, a) -> x.capsule(0, a, 1, 0), 10, -6);
        for (int d = 0; d < DESKS; d++) {
            int desk = d;
            refuses("one and the same", x -> x.tube(desk, desk, 1, 1), -6);
        }
        refuses("a fault", x -> x.plan(LEGS), -6);
        for (int m : new int[] {Due.LOW, -2, 501, Due.HIGH}) {
            refuses("within " + m, x -> x.within(0, m), -6);
        }
        for (int bits : new int[] {Due.LOW, -1, 0, 16, 17, 31, 256, Due.HIGH}) {
            refuses("bits " + bits, x -> x.round(0, bits, 0, -1), -16);
        }
        notThere("a stay", (x, s) -> x.round(0, 1, s, -1), 61, -16);
        refuses("a cut from his own", x -> x.cut(0, 1, 0), -16);
        notThere("enough by", (x, m) -> x.enough(0, 0, m), 501, -16);
        refuses("no knocks", x -> x.stuck(KNOCKS, 0), -6);
        refuses("nine knocks", x -> x.stuck(FULL, 9), -6);
        refuses("no such desk", x -> x.stuck(KNOCKS, 3), -6);
        refuses("listen: no knocks", x -> x.listen(KNOCKS, 0), -16);
        refuses("listen: nine knocks", x -> x.listen(FULL, 9), -16);
        refuses("listen: no such desk", x -> x.listen(KNOCKS, 3), -16);
        refuses("judge above 40", x -> x.judge(LEGS, 41), -16);
        refuses("behind above 40", x -> x.behind(FULL, 41, 0), -6);
        refuses("behind what is wrong", x -> x.behind(LEGS, 2, 0), -6);
        refuses("done above 40", x -> x.done(FULL, 41), -6);
        refuses("done, wrong", x -> x.done(LEGS, 2), -6);
        refuses("no way", x -> x.send(0, 3, true), -6);
        refuses("a queen's way back", x -> x.send(1, 0, true), -6);
        for (int n : new int[] {Due.LOW, -1, 0, 61, Due.HIGH}) {
            refuses("months " + n, x -> x.months(n), -6);
        }
        refuses("no image", x -> x.restore(), -6);
    }

    private static TubesOfCourt fullCourt() {
        TubesOfCourt x = Due.withDesks(8);
        for (int t = 0; t < 16; t++) {
            x.tube(0, 1, 1, 1);
        }
        for (int c = 0; c < 5; c++) {
            x.capsule(0, 0, 1, 0);
        }
        return x;
    }

    private static void room() {
        DUE.sentence("-7 ROOM: more than may be.");
        for (int n : new int[] {161, 162, 320, Due.HIGH}) {
            refuses("a row of " + n, x -> x.row(0, 0, n), -7);
        }
        refuses(fullCourt(), "a ninth desk", x -> x.desk(), -7);
        refuses(fullCourt(), "a seventeenth tube", x -> x.tube(0, 1, 1, 1), -7);
        refuses(fullCourt(), "a sixth capsule", x -> x.capsule(0, 0, 1, 0), -7);
    }

    private static final String ORDER =
        "the call answers the number; nothing changes but how many there were; the first that fits, in this order";

    private static void theFirstOfShelves() {
        DUE.sentence(ORDER);
        refuses("row: shelf, below, sort", x -> x.row(8, 4, -1), -1);
        refuses("row: shelf, room", x -> x.row(8, 0, 161), -1);
        refuses("row: below, sort", x -> x.row(0, 4, -1), -4);
        refuses("row: sort, room", x -> x.row(0, 4, 161), -6);
        refuses("set: shelf, element", x -> x.set(8, -1, 1), -1);
        refuses("set: a capsule, element", x -> x.set(HELD, -1, 1), -2);
        refuses("set: nothing, element", x -> x.set(EMPTY, -1, 1), -3);
        refuses("copy: no shelf, a capsule", x -> x.copy(8, HELD, 0, 0, 1), -1);
        refuses("copy: a capsule, no shelf", x -> x.copy(HELD, 8, 0, 0, 1), -1);
        refuses("copy: nothing, no shelf", x -> x.copy(EMPTY, -1, 0, 0, -1), -1);
        refuses("copy: nothing, a capsule", x -> x.copy(EMPTY, HELD, 0, 0, -1), -2);
        refuses("copy: a capsule, nothing", x -> x.copy(HELD, EMPTY, 0, 0, -1), -2);
        refuses("copy: two sorts, below", x -> x.copy(LEGS, KNOCKS, 0, 0, -1), -2);
        refuses("copy: two sorts, elements", x -> x.copy(LEGS, KNOCKS, -1, 99, 1), -2);
        refuses("copy: nothing, below", x -> x.copy(LEGS, EMPTY, -1, 0, -1), -3);
        refuses("copy: below, elements", x -> x.copy(LEGS, LEGS, -1, 99, -1), -4);
        refuses("show: neither", x -> x.show(8, 2), -1);
        refuses("says: kind, a row", x -> x.says(LEGS, 7), -1);
        refuses("says: kind, nothing", x -> x.says(EMPTY, -1), -1);
        refuses("says: shelf and kind", x -> x.says(8, 7), -1);
    }

    private static void theFirstOfTheMinistry() {
        DUE.sentence(ORDER);
        refuses("tube: desk, length", x -> x.tube(4, 0, 0, 0), -1);
        refuses("tube: the other desk, bore", x -> x.tube(0, -1, 1, 10), -1);
        refuses("tube: no desk, the same", x -> x.tube(-1, -1, 1, 1), -1);
        refuses(fullCourt(), "tube: desk, room", x -> x.tube(0, 8, 1, 1), -1);
        refuses(fullCourt(), "tube: length, room", x -> x.tube(0, 1, 10, 1), -6);
        refuses(fullCourt(), "tube: bore, room", x -> x.tube(0, 1, 1, 0), -6);
        refuses(fullCourt(), "tube: the same, room", x -> x.tube(7, 7, 1, 1), -6);
        refuses("capsule: kind, a", x -> x.capsule(7, 10, 0, 0), -1);
        refuses("capsule: desk, weight", x -> x.capsule(0, 0, 10, 4), -1);
        refuses(fullCourt(), "capsule: kind, room", x -> x.capsule(-1, 0, 1, 0), -1);
        refuses(fullCourt(), "capsule: desk, room", x -> x.capsule(0, 0, 1, 8), -1);
        refuses(fullCourt(), "capsule: a, room", x -> x.capsule(0, 10, 1, 0), -6);
        refuses(fullCourt(), "capsule: weight, room", x -> x.capsule(0, 0, 0, 0), -6);
        refuses("capsuleOf: neither", x -> x.capsuleOf(2, 4), -5);
        refuses("tubeOf: neither", x -> x.tubeOf(2, 5), -5);
    }

    private static void theFirstOfTheAsked() {
        DUE.sentence(ORDER);
        refuses("way: capsule, what", x -> x.way(2, 0, 3), -11);
        refuses("way: desk, what", x -> x.way(0, 4, -1), -11);
        refuses("within: capsule, minutes", x -> x.within(2, 501), -1);
        refuses("round: capsule, i", x -> x.round(2, 1, 0, 1), -11);
        refuses("round: capsule, bits", x -> x.round(2, 0, 61, -1), -11);
        refuses("round: i, stay", x -> x.round(0, 1, 61, 1), -15);
        refuses("meet: capsule, what", x -> x.meet(0, 2, 2), -11);
        refuses("meet: himself, what", x -> x.meet(1, 1, 2), -11);
        refuses("cut: capsule, what", x -> x.cut(2, 0, 2), -11);
        refuses("cut: desk, what", x -> x.cut(0, 4, 2), -11);
        refuses("cut: what, his own", x -> x.cut(0, 1, 2), -15);
        refuses("stuck: shelf, below", x -> x.stuck(8, -1), -1);
        refuses("stuck: a capsule, below", x -> x.stuck(HELD, -1), -2);
        refuses("stuck: nothing, below", x -> x.stuck(EMPTY, -1), -3);
        refuses("stuck: fewer, above 8", x -> x.stuck(KNOCKS, 9), -5);
        refuses("stuck: fewer, a wrong desk", x -> x.stuck(KNOCKS, 4), -5);
        refuses("listen: shelf, below", x -> x.listen(8, -1), -11);
        refuses("listen: a capsule, below", x -> x.listen(HELD, -1), -12);
        refuses("listen: nothing, below", x -> x.listen(EMPTY, -1), -13);
        refuses("listen: fewer, above 8", x -> x.listen(KNOCKS, 9), -15);
        refuses("listen: fewer, a wrong desk", x -> x.listen(KNOCKS, 4), -15);
        refuses("enough: capsule, minutes", x -> x.enough(2, 0, 501), -11);
        refuses("enough: desk, minutes", x -> x.enough(0, 4, -1), -11);
        refuses("seat: capsule, what", x -> x.seat(2, 2), -1);
    }

    private static void theFirstOfDays() {
        DUE.sentence(ORDER);
        refuses("judge: shelf, below", x -> x.judge(8, -1), -11);
        refuses("judge: a capsule, below", x -> x.judge(HELD, -1), -12);
        refuses("judge: nothing, below", x -> x.judge(EMPTY, -1), -13);
        refuses("judge: fewer, above 40", x -> x.judge(LEGS, 51), -15);
        refuses("behind: shelf, below", x -> x.behind(8, -1, 3), -1);
        refuses("behind: a capsule, below", x -> x.behind(HELD, -1, 3), -2);
        refuses("behind: nothing, what", x -> x.behind(EMPTY, 0, 3), -3);
        refuses("behind: below, what", x -> x.behind(LEGS, -1, 3), -4);
        refuses("behind: fewer, above 40", x -> x.behind(LEGS, 51, 0), -5);
        refuses("behind: what, above 40", x -> x.behind(LEGS, 41, 3), -5);
        refuses("behind: what, wrong", x -> x.behind(LEGS, 2, -1), -5);
        refuses("done: shelf, below", x -> x.done(8, -1), -1);
        refuses("done: a capsule, below", x -> x.done(HELD, -1), -2);
        refuses("done: nothing, below", x -> x.done(EMPTY, -1), -3);
        refuses("done: fewer, above 40", x -> x.done(LEGS, 51), -5);
        refuses("send: capsule, no way", x -> x.send(2, 3, true), -1);
        TubesOfCourt x = Due.withDesks(1);
        Due.putRow(x, 0, 1, new long[41]);
        refuses(x, "behind: no capsule, wrong", y -> y.behind(0, 1, 2), -5);
        refuses(x, "behind: no capsule, above 40", y -> y.behind(0, 41, 2), -5);
        refuses(x, "months: no capsules, none", y -> y.months(0), -5);
    }

    private static void notRefused() {
        DUE.promise(40, "11 to 17: REFUSALS -1 to -7.");
        TubesOfCourt x = court();
        int[] odd = {Due.LOW, -7, -1, 99, Due.HIGH};
        for (int v : odd) {
            x.element(v, v);
            x.element(0, v);
            x.element(HELD, v);
            x.holds(v);
            x.seed(v);
            x.act(v, 0, 0);
            x.act(0, v, 0);
            x.trace(v);
            x.status(v);
        }
        x.fault();
        x.image();
        x.restore();
        x.way(0, 3, 0);
        x.way(0, 1, 1);
        x.round(0, 8, 0, -1);
        x.round(0, 8, 0, 0);
        x.cut(0, 3, 0);
        x.tree(0);
        x.enough(0, 3, 1);
        x.listen(KNOCKS, 2);
        x.judge(LEGS, 2);
        for (int what = 11; what <= 17; what++) {
            DUE.is("none of these is a refusal: " + what, x.status(what), 0);
        }
        x.ask(0);
        x.cut(0, 1, 0);
        DUE.is("-6 and -16 count together", x.status(16), 2);
    }
}
