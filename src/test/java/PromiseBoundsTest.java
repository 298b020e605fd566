/** Promises 1 to 40: the boundaries that each one names, under its own heading. */
public final class PromiseBoundsTest {
    private static final Due DUE = new Due();
    private static final int QUEEN = 4;
    private static final int CAT = 5;

    public static void main(String[] args) {
        none();
        newObject();
        row();
        set();
        copy();
        element();
        show();
        holds();
        says();
        desk();
        tube();
        capsule();
        shut();
        ask();
        capsuleOf();
        tubeOf();
        signed();
        plan();
        fault();
        time();
        way();
        within();
        round();
        meet();
        cut();
        stuck();
        listen();
        enough();
        tree();
        seat();
        judge();
        behind();
        done();
        send();
        months();
        seed();
        act();
        trace();
        image();
        restore();
        status();
        DUE.everyPromise();
        DUE.end();
    }

    private static void none() {
        DUE.sentence("public static final int NONE = -1;");
        DUE.is("NONE", TubesOfCourt.NONE, -1);
    }

    private static void newObject() {
        DUE.promise(1, "`TubesOfCourt()`: No DESKS.");
        TubesOfCourt x = new TubesOfCourt();
        int[] due = {0, 0, 0, 5, 0, 0, 0, 1, 0, -1, -1, 0, 0, 0, 0, 0, 0, 0, -1};
        for (int what = 0; what < due.length; what++) {
            DUE.is("status(" + what + ")", x.status(what), due[what]);
        }
        DUE.is("no desk 0", x.signed(0), -5);
        DUE.is("no tube 0", x.tubeOf(0, 0), -5);
        DUE.is("no capsule 0", x.capsuleOf(0, 0), -5);
        DUE.is("no fault", x.fault(), -1);
        DUE.is("no trace", x.trace(0), -1);
        TubesOfCourt y = Due.line(3, 1, 1);
        DUE.is("one has what another hasn't", new TubesOfCourt().status(0) * 10 + y.status(0), 3);
    }

    private static void row() {
        DUE.promise(2, "SHELF s holds a new ROW: 1. -1; -4; -6 SORT; -7 n above 160.");
        TubesOfCourt x = Due.withDesks(1);
        x.capsule(0, 0, 1, 0);
        Due.putRow(x, 0, 0, 7, 8, 9);
        DUE.is("a new one", x.row(0, 3, 2), 1);
        DUE.is("of 0", x.element(0, 0), 0);
        DUE.is("of two", x.set(0, 2, 1), -5);
        x.show(1, 0);
        DUE.is("over a capsule", x.row(1, 1, 160), 1);
        DUE.is("holds", x.holds(1), 101);
        DUE.is("none", x.row(1, 0, 0), 1);
        DUE.is("holds none", x.set(1, 0, 0), -5);
        DUE.is("shelf 8", x.row(8, 0, 1), -1);
        DUE.is("n -1", x.row(1, 0, -1), -4);
        DUE.is("sort 4", x.row(1, 4, 1), -6);
        DUE.is("n 161", x.row(1, 0, 161), -7);
        DUE.is("holds what it held", x.holds(1), 100);
    }

    private static void set() {
        DUE.promise(3, "Element i of the ROW becomes v: 1. -1; -2; -3; -5.");
        TubesOfCourt x = new TubesOfCourt();
        x.row(0, 3, 160);
        DUE.is("the first", x.set(0, 0, Long.MIN_VALUE), 1);
        DUE.is("the last", x.set(0, 159, Long.MAX_VALUE), 1);
        DUE.is("behind it", x.set(0, 160, 1), -5);
        DUE.is("ahead of it", x.set(0, -1, 1), -5);
        DUE.is("the first", x.element(0, 0), Long.MIN_VALUE);
        DUE.is("the second is as it was", x.element(0, 1), 0);
        DUE.is("the last", x.element(0, 159), Long.MAX_VALUE);
        x.row(1, 0, 0);
        DUE.is("none", x.set(1, 0, 1), -5);
    }

    private static void copied(TubesOfCourt x, int s, long due) {
        long all = 0;
        for (int i = 0; i < 5; i++) {
            all = all * 10 + x.element(s, i);
        }
        DUE.is("elements", all, due);
    }

    private static void copy() {
        DUE.promise(4, "come to elements j, j + 1, .. of that in q (as they were ahead): 1. -1; "
            + "-2 also of two SORTS (when both hold something); -3 either; -4 n; "
            + "-5 i or j below 0, or an end that isn't there.");
        TubesOfCourt x = new TubesOfCourt();
        Due.putRow(x, 0, 1, 1, 2, 3, 4, 5);
        Due.putRow(x, 1, 1, 6, 7, 8);
        DUE.is("on, over itself", x.copy(0, 0, 0, 1, 4), 1);
        copied(x, 0, 11234);
        DUE.is("back, over itself", x.copy(0, 0, 1, 0, 4), 1);
        copied(x, 0, 12344);
        DUE.is("all over itself", x.copy(0, 0, 0, 0, 5), 1);
        DUE.is("all of the other", x.copy(1, 0, 0, 2, 3), 1);
        copied(x, 0, 12678);
        DUE.is("none, from end to end", x.copy(0, 1, 5, 3, 0), 1);
        DUE.is("none, behind the end", x.copy(0, 1, 6, 3, 0), -5);
        DUE.is("none, behind the other end", x.copy(0, 1, 5, 4, 0), -5);
        DUE.is("i below", x.copy(0, 1, -1, 0, 0), -5);
        DUE.is("j below", x.copy(0, 1, 0, -1, 0), -5);
        DUE.is("an end that isn't there", x.copy(0, 1, 3, 0, 3), -5);
        DUE.is("the other end that isn't", x.copy(0, 1, 0, 0, 4), -5);
        DUE.is("an end that would wrap", x.copy(0, 0, Due.HIGH, 0, 1), -5);
        DUE.is("another", x.copy(0, 0, 0, Due.HIGH, 5), -5);
        DUE.is("both", x.copy(0, 0, Due.HIGH, Due.HIGH, Due.HIGH), -5);
        DUE.is("n -1", x.copy(0, 1, 0, 0, -1), -4);
        DUE.is("nothing to", x.copy(0, 2, 0, 0, 1), -3);
        DUE.is("nothing from", x.copy(2, 0, 0, 0, 1), -3);
        x.row(2, 2, 3);
        DUE.is("two sorts", x.copy(0, 2, 0, 0, 1), -2);
        copied(x, 0, 12678);
        copied(x, 1, 67800);
        x.row(3, 1, 0);
        DUE.is("of no elements none", x.copy(3, 3, 0, 0, 0), 1);
        DUE.is("of no elements one", x.copy(3, 0, 0, 0, 1), -5);
    }

    private static void element() {
        DUE.promise(5, "Element i of the ROW; 0 if there is none (nothing is refused).");
        TubesOfCourt x = Due.withDesks(1);
        x.capsule(0, 0, 1, 0);
        x.row(0, 3, 160);
        x.set(0, 159, -5);
        x.row(1, 3, 2);
        x.set(1, 1, 6);
        x.show(2, 0);
        DUE.is("the last", x.element(0, 159), -5);
        for (int i : new int[] {Due.LOW, -1, 160, Due.HIGH}) {
            DUE.is("element " + i, x.element(0, i), 0);
        }
        DUE.is("the last of two", x.element(1, 1), 6);
        DUE.is("behind it", x.element(1, 2), 0);
        for (int s : new int[] {Due.LOW, -1, 2, 3, 8, Due.HIGH}) {
            DUE.is("shelf " + s, x.element(s, 0), 0);
        }
        x.show(1, 0);
        DUE.is("a row that is no more", x.element(1, 1), 0);
        for (int what = 11; what <= 17; what++) {
            DUE.is("refused", x.status(what), 0);
        }
    }

    private static void show() {
        DUE.promise(6, "SHELF s holds a CAPSULE, or NOTHING (capsule NONE): 1, 0. -1.");
        TubesOfCourt x = Due.withDesks(1);
        DUE.is("nothing in nothing", x.show(7, TubesOfCourt.NONE), 0);
        DUE.is("no capsule yet", x.show(0, 0), -1);
        for (int c = 0; c < 5; c++) {
            x.capsule(0, 0, 1, 0);
        }
        DUE.is("the first", x.show(0, 0), 1);
        DUE.is("the last", x.show(0, 4), 1);
        DUE.is("holds", x.holds(0), 4);
        DUE.is("behind the last", x.show(0, 5), -1);
        DUE.is("below NONE", x.show(0, -2), -1);
        DUE.is("holds yet", x.holds(0), 4);
        DUE.is("nothing", x.show(0, -1), 0);
        DUE.is("holds", x.holds(0), -1);
        DUE.is("shelf 8", x.show(8, -1), -1);
        DUE.is("shelf -1", x.show(-1, 4), -1);
    }

    private static void holds() {
        DUE.promise(7, "NONE NOTHING, or no such SHELF; a CAPSULE's number; 100 and the SORT of a ROW.");
        TubesOfCourt x = Due.withDesks(1);
        for (int c = 0; c < 5; c++) {
            x.capsule(0, 0, 1, 0);
            x.show(7, c);
            DUE.is("a capsule", x.holds(7), c);
        }
        for (int sort = 0; sort < 4; sort++) {
            x.row(7, sort, 0);
            DUE.is("a row", x.holds(7), 100 + sort);
        }
        x.show(7, -1);
        for (int s : new int[] {Due.LOW, -1, 0, 7, 8, Due.HIGH}) {
            DUE.is("shelf " + s, x.holds(s), -1);
        }
        DUE.is("not refused", x.status(11), 0);
    }

    private static void says() {
        DUE.promise(8, "CAPSULE where it is AT; KING, RIVAL, DENTED its WEIGHT; MINISTER, QUEEN its a; "
            + "CAT how many TUBES there are. -1 SHELF, KIND; -2 also a CAPSULE of another KIND; -3.");
        TubesOfCourt x = Due.withDesks(3);
        for (int kind : new int[] {6, QUEEN, CAT, 0}) {
            x.capsule(kind, 0, 9, 0);
        }
        x.show(0, 0);
        DUE.is("at 0", x.says(0, 0), 0);
        DUE.is("weight", x.says(0, 6), 9);
        x.show(0, 1);
        DUE.is("a 0", x.says(0, QUEEN), 0);
        x.show(0, 2);
        DUE.is("no tubes", x.says(0, CAT), 0);
        for (int t = 0; t < 16; t++) {
            x.tube(0, 1, 1, 1);
        }
        DUE.is("sixteen", x.says(0, CAT), 16);
        x.show(0, 3);
        DUE.is("the kind above alone", x.says(0, 0), 0);
        DUE.is("not a kind under it", x.says(0, 1), -2);
        DUE.is("shelf 8", x.says(8, 0), -1);
        DUE.is("kind 7", x.says(0, 7), -1);
        DUE.is("kind -1", x.says(0, -1), -1);
        x.row(0, 0, 1);
        DUE.is("a row", x.says(0, 0), -2);
        x.show(0, -1);
        DUE.is("nothing", x.says(0, 0), -3);
    }

    private static void desk() {
        DUE.promise(9, "A DESK: the number. -7.");
        TubesOfCourt x = Due.withDesks(7);
        DUE.is("the eighth", x.desk(), 7);
        DUE.is("a ninth", x.desk(), -7);
        DUE.is("a tenth", x.desk(), -7);
        DUE.is("eight", x.status(0), 8);
        DUE.is("refused", x.status(17), 2);
    }

    private static void tube() {
        DUE.promise(10, "A TUBE: the number. -1 a DESK; -6 also one and the same; -7.");
        TubesOfCourt x = Due.withDesks(8);
        DUE.is("from the first to the last", x.tube(0, 7, 1, 9), 0);
        DUE.is("from the last to the first", x.tube(7, 0, 9, 1), 1);
        DUE.is("of the same ends", x.tube(0, 7, 1, 9), 2);
        DUE.is("desk 8", x.tube(0, 8, 1, 1), -1);
        DUE.is("desk -1", x.tube(-1, 0, 1, 1), -1);
        DUE.is("one and the same", x.tube(7, 7, 1, 1), -6);
        DUE.is("length 10", x.tube(0, 7, 10, 1), -6);
        DUE.is("bore 0", x.tube(0, 7, 1, 0), -6);
        for (int t = 3; t < 16; t++) {
            DUE.is("tube", x.tube(6, 5, 2, 3), t);
        }
        DUE.is("a seventeenth", x.tube(0, 7, 1, 1), -7);
    }

    private static void capsule() {
        DUE.promise(11, "A CAPSULE: the number. -1 KIND, DESK; -6; -7.");
        TubesOfCourt x = Due.withDesks(8);
        DUE.is("the least of all", x.capsule(0, 0, 1, 0), 0);
        DUE.is("the greatest of all", x.capsule(6, 9, 9, 7), 1);
        DUE.is("kind 7", x.capsule(7, 0, 1, 0), -1);
        DUE.is("desk 8", x.capsule(0, 0, 1, 8), -1);
        DUE.is("a 10", x.capsule(0, 10, 1, 0), -6);
        DUE.is("a -1", x.capsule(0, -1, 1, 0), -6);
        DUE.is("weight 0", x.capsule(0, 0, 0, 0), -6);
        DUE.is("weight 10", x.capsule(0, 0, 10, 0), -6);
        for (int c = 2; c < 5; c++) {
            DUE.is("capsule", x.capsule(1, 1, 1, 1), c);
        }
        DUE.is("a sixth", x.capsule(0, 0, 1, 0), -7);
    }

    private static void shut() {
        DUE.promise(12, "A TUBE is SHUT, or open: whether it was SHUT (1, 0). -1.");
        TubesOfCourt x = Due.withDesks(2);
        for (int t = 0; t < 16; t++) {
            x.tube(0, 1, 1, 1);
        }
        for (int t : new int[] {0, 7, 15}) {
            DUE.is("open stays open", x.shut(t, false), 0);
            DUE.is("shut", x.shut(t, true), 0);
            DUE.is("shut stays shut", x.shut(t, true), 1);
            DUE.is("it is", x.tubeOf(t, 4), 1);
            DUE.is("one alone", x.status(6), 1);
            DUE.is("open", x.shut(t, false), 1);
            DUE.is("none", x.status(6), 0);
        }
        DUE.is("tube 16", x.shut(16, true), -1);
        DUE.is("tube -1", x.shut(-1, true), -1);
        DUE.is("tube 32, though 0 is there", x.shut(32, true), -1);
        DUE.is("none yet", x.status(6), 0);
    }

    private static void ask() {
        DUE.promise(13, "PRESSURE becomes v: what it was. -6.");
        TubesOfCourt x = new TubesOfCourt();
        DUE.is("9", x.ask(9), 5);
        DUE.is("10", x.ask(10), -6);
        DUE.is("1", x.ask(1), 9);
        DUE.is("0", x.ask(0), -6);
        DUE.is("the same", x.ask(1), 1);
        DUE.is("status(3)", x.status(3), 1);
    }

    private static void capsuleOf() {
        DUE.promise(14, "Of a CAPSULE: 0 KIND, 1 a, 2 WEIGHT, 3 AT. -5: no such one, another what.");
        TubesOfCourt x = Due.withDesks(8);
        for (int c = 0; c < 5; c++) {
            x.capsule(c + 2, 9 - c, 1 + c, 7 - c);
        }
        for (int c = 0; c < 5; c++) {
            int[] due = {c + 2, 9 - c, 1 + c, 7 - c};
            for (int what = 0; what < 4; what++) {
                DUE.is("capsule " + c + ", " + what, x.capsuleOf(c, what), due[what]);
            }
        }
        DUE.is("another what", x.capsuleOf(0, 4), -5);
        DUE.is("another what", x.capsuleOf(0, -1), -5);
        DUE.is("no such one", x.capsuleOf(5, 0), -5);
        DUE.is("no such one", x.capsuleOf(-1, 0), -5);
    }

    private static void tubeOf() {
        DUE.promise(15, "Of a TUBE: 0 FROM, 1 TO, 2 LENGTH, 3 BORE, 4 whether it is SHUT (1, 0). "
            + "-5: no such one, another what.");
        TubesOfCourt x = Due.withDesks(8);
        for (int t = 0; t < 16; t++) {
            x.tube(t % 8, (t + 3) % 8, 1 + t % 9, 9 - t % 9);
            x.shut(t, t % 3 == 0);
        }
        for (int t = 0; t < 16; t++) {
            int[] due = {t % 8, (t + 3) % 8, 1 + t % 9, 9 - t % 9, t % 3 == 0 ? 1 : 0};
            for (int what = 0; what < 5; what++) {
                DUE.is("tube " + t + ", " + what, x.tubeOf(t, what), due[what]);
            }
        }
        DUE.is("another what", x.tubeOf(0, 5), -5);
        DUE.is("another what", x.tubeOf(0, -1), -5);
        DUE.is("no such one", x.tubeOf(16, 0), -5);
        DUE.is("no such one", x.tubeOf(-1, 4), -5);
    }

    private static void signed() {
        DUE.promise(16, "SIGNED of a DESK. -5: no such one.");
        TubesOfCourt x = Due.withDesks(8);
        x.capsule(CAT, 0, 1, 7);
        DUE.is("not yet", x.signed(7), 0);
        x.send(0, 7, true);
        DUE.is("once", x.signed(7), 1);
        DUE.is("the first is not", x.signed(0), 0);
        for (int d : new int[] {Due.LOW, -1, 8, Due.HIGH}) {
            DUE.is("desk " + d, x.signed(d), -5);
        }
    }

    private static void plan() {
        DUE.promise(17, "A PLAN by the ROW in SHELF s: how many ITEMS. -1; -2; -3; -6 a FAULT.");
        TubesOfCourt x = new TubesOfCourt();
        Due.putText(x, 7, "desk");
        DUE.is("one", x.plan(7), 1);
        DUE.is("again", x.plan(7), 1);
        DUE.is("two desks", x.status(0), 2);
        Due.putText(x, 7, "desk;tube 0 1 1 1;desk");
        DUE.is("three", x.plan(7), 3);
        DUE.is("four desks", x.status(0), 4);
        x.row(7, 0, 0);
        DUE.is("none", x.plan(7), -6);
        for (int sort = 1; sort < 4; sort++) {
            Due.putRow(x, 7, sort, 'd', 'e', 's', 'k');
            DUE.is("of sort " + sort, x.plan(7), 1);
            x.set(7, 3, 'k' + 256);
            DUE.is("no letter, of sort " + sort, x.plan(7), -6);
            DUE.is("its place", x.fault(), 3);
        }
        Due.putRow(x, 7, 0, 'd', 'e', 's', 'k' + 256);
        DUE.is("of bytes the lowest bits are one", x.plan(7), 1);
        DUE.is("eight desks", x.status(0), 8);
        DUE.is("a ninth", x.plan(7), -6);
        DUE.is("shelf 8", x.plan(8), -1);
        DUE.is("nothing", x.plan(0), -3);
    }

    private static void fault() {
        DUE.promise(18, "The FAULT of the latest plan() that came to a ROW; NONE: there was none, or none yet.");
        TubesOfCourt x = Due.withDesks(1);
        x.capsule(0, 0, 1, 0);
        x.show(1, 0);
        DUE.is("none yet", x.fault(), -1);
        x.plan(2);
        DUE.is("none came to a row", x.fault(), -1);
        Due.putText(x, 0, "desx");
        x.plan(0);
        DUE.is("3", x.fault(), 3);
        DUE.is("3 yet", x.fault(), 3);
        x.plan(8);
        x.plan(1);
        x.plan(2);
        x.image();
        x.restore();
        DUE.is("the latest that came to one", x.fault(), 3);
        Due.putText(x, 0, "desk");
        DUE.is("till the next plan", x.fault(), 3);
        x.plan(0);
        DUE.is("there was none", x.fault(), -1);
        x.row(0, 0, 0);
        x.plan(0);
        DUE.is("of no elements", x.fault(), 0);
    }

    private static void time() {
        DUE.promise(19, "TIME. -1.");
        TubesOfCourt x = Due.line(2, 9, 1);
        x.capsule(0, 0, 9, 1);
        DUE.is("of one who may not, too", x.time(0, 0), 17);
        x.shut(0, true);
        DUE.is("of one that is shut, too", x.time(0, 0), 17);
        x.ask(1);
        DUE.is("the longest", x.time(0, 0), 81);
        DUE.is("capsule 1", x.time(1, 0), -1);
        DUE.is("tube 1", x.time(0, 1), -1);
        DUE.is("capsule -1", x.time(-1, 0), -1);
        DUE.is("tube -1", x.time(0, -1), -1);
    }

    private static void way() {
        DUE.promise(20, "WAY (what 0), FIRST (1; AT it: NONE), STEPS (2); NONE. "
            + "-11; -15 another what (counted as -1, -5).");
        TubesOfCourt x = Due.line(3, 2, 9);
        x.desk();
        x.capsule(CAT, 0, 1, 2);
        int[][] due = {{4, 1, 2}, {2, 1, 1}, {0, -1, 0}, {-1, -1, -1}};
        for (int d = 0; d < 4; d++) {
            for (int what = 0; what < 3; what++) {
                DUE.is("way to " + d + ", " + what, x.way(0, d, what), due[d][what]);
            }
        }
        DUE.is("none is refused", x.status(11) + x.status(15), 0);
        DUE.is("what 3", x.way(0, 0, 3), -15);
        DUE.is("what -1", x.way(0, 0, -1), -15);
        DUE.is("desk 4", x.way(0, 4, 0), -11);
        DUE.is("capsule 1", x.way(1, 0, 0), -11);
        DUE.is("counted as -5", x.status(15), 2);
        DUE.is("counted as -1", x.status(11), 2);
    }

    private static void within() {
        DUE.promise(21, "WITHIN (m 0 to 500), DIRE (m NONE). -1; -6.");
        TubesOfCourt x = Due.line(3, 2, 9);
        x.shut(1, true);
        x.capsule(0, 0, 5, 1);
        DUE.is("0", x.within(0, 0), 2);
        DUE.is("1", x.within(0, 1), 2);
        DUE.is("2", x.within(0, 2), 3);
        DUE.is("500", x.within(0, 500), 3);
        DUE.is("NONE", x.within(0, TubesOfCourt.NONE), 1);
        DUE.is("-2", x.within(0, -2), -6);
        DUE.is("501", x.within(0, 501), -6);
        DUE.is("capsule 1", x.within(1, -2), -1);
    }

    private static void round() {
        DUE.promise(22, "ROUND: minutes (i NONE), the i-th DESK; NONE. -11; -15 no such i (ahead of -16); "
            + "-16 bits of DESKS that aren't there, none, s (counted as -1, -5, -6).");
        TubesOfCourt x = Due.line(8, 1, 9);
        x.capsule(QUEEN, 0, 1, 0);
        DUE.is("minutes", x.round(0, 255, 60, -1), 487);
        for (int i = 0; i < 8; i++) {
            DUE.is("the i-th", x.round(0, 255, 60, i), i);
        }
        DUE.is("no 8-th", x.round(0, 255, 60, 8), -15);
        DUE.is("no 8-th, ahead of s", x.round(0, 255, 61, 8), -15);
        DUE.is("s 61", x.round(0, 255, 61, 7), -16);
        DUE.is("none", x.round(0, 0, 0, -1), -16);
        DUE.is("bits of a ninth", x.round(0, 257, 0, -1), -16);
        DUE.is("no capsule", x.round(1, 255, 60, 8), -11);
        x.send(0, 1, false);
        DUE.is("not back", x.round(0, 255, 0, -1), -1);
        DUE.is("no order", x.round(0, 255, 0, 7), -1);
        DUE.is("no 8-th of none", x.round(0, 255, 0, 8), -15);
        DUE.is("counted as -1", x.status(11), 1);
        DUE.is("counted as -5", x.status(15), 3);
        DUE.is("counted as -6", x.status(16), 3);
    }

    private static void meet() {
        DUE.promise(23, "MEET: the DESK (what 0), minutes (1); NONE. -11 also one with himself; "
            + "-15 another what (counted as -1, -5).");
        TubesOfCourt x = Due.line(2, 3, 9);
        x.desk();
        x.capsule(CAT, 0, 1, 1);
        x.capsule(QUEEN, 0, 5, 0);
        x.capsule(CAT, 0, 1, 2);
        DUE.is("the desk", x.meet(0, 1, 0), 0);
        DUE.is("minutes", x.meet(0, 1, 1), 3);
        DUE.is("none", x.meet(0, 2, 0), -1);
        DUE.is("none", x.meet(0, 2, 1), -1);
        DUE.is("not refused", x.status(11), 0);
        DUE.is("himself", x.meet(2, 2, 0), -11);
        DUE.is("no such one", x.meet(3, 2, 0), -11);
        DUE.is("no such one, the same", x.meet(3, 3, 0), -11);
        DUE.is("another what", x.meet(0, 2, 2), -15);
        DUE.is("counted as -1", x.status(11), 3);
        DUE.is("counted as -5", x.status(15), 1);
    }

    private static void cut() {
        DUE.promise(24, "CUT (what 0; NONE), KEEP (1; no WAY: 0). -11; -15 another what; "
            + "-16 his own DESK (counted as -1, -5, -6).");
        TubesOfCourt x = Due.line(3, 3, 9);
        x.desk();
        x.capsule(0, 0, 1, 0);
        x.capsule(CAT, 0, 1, 0);
        DUE.is("cut", x.cut(0, 2, 0), 1);
        DUE.is("keep", x.cut(0, 2, 1), 3);
        DUE.is("none for a cat", x.cut(1, 2, 0), -1);
        DUE.is("no way", x.cut(0, 3, 0), 0);
        DUE.is("no way, keep", x.cut(0, 3, 1), 0);
        DUE.is("none is refused", x.status(11) + x.status(15) + x.status(16), 0);
        DUE.is("desk 4", x.cut(0, 4, 0), -11);
        DUE.is("another what", x.cut(0, 2, 2), -15);
        DUE.is("his own", x.cut(0, 0, 1), -16);
        for (int i : new int[] {1, 5, 6}) {
            DUE.is("counted as -" + i, x.status(10 + i), 1);
        }
    }

    private static void stuck() {
        DUE.promise(25, "TUBES that FIT the first n twos (1 to 8) of the ROW in SHELF s. -1; -2; -3; -4 n; "
            + "-5 fewer elements; -6 n not 1 to 8, a DESK that isn't there, a minute.");
        TubesOfCourt x = Due.line(8, 1, 1);
        x.row(0, 1, 19);
        for (int i = 0; i < 9; i++) {
            x.set(0, 2 * i, i % 8);
            x.set(0, 2 * i + 1, 100 + Math.max(i, 1));
        }
        DUE.is("1", x.stuck(0, 1), 127);
        for (int n = 2; n <= 8; n++) {
            DUE.is("the first " + n, x.stuck(0, n), 1);
        }
        DUE.is("0", x.stuck(0, 0), -6);
        DUE.is("9", x.stuck(0, 9), -6);
        DUE.is("10: 19 elements are fewer", x.stuck(0, 10), -5);
        DUE.is("-1", x.stuck(0, -1), -4);
        x.set(0, 15, 109);
        DUE.is("the eighth a minute later", x.stuck(0, 8), 0);
        DUE.is("the first seven", x.stuck(0, 7), 1);
        x.set(0, 14, 8);
        DUE.is("the eighth at no desk", x.stuck(0, 8), -6);
        x.set(0, 14, 7);
        x.set(0, 15, 1000);
        DUE.is("the eighth at no minute", x.stuck(0, 8), -6);
        x.row(1, 0, 2);
        DUE.is("one of two elements", x.stuck(1, 1), 127);
        x.row(1, 0, 1);
        DUE.is("one of one element", x.stuck(1, 1), -5);
        x.row(1, 0, 0);
        DUE.is("one of none", x.stuck(1, 1), -5);
        DUE.is("none of none", x.stuck(1, 0), -6);
    }

    private static void listen() {
        DUE.promise(26, "LISTEN; NONE. -11; -12; -13; -14; -15; -16 (counted as -1 to -6).");
        TubesOfCourt x = Due.line(3, 1, 1);
        x.capsule(0, 0, 1, 0);
        x.show(1, 0);
        Due.putRow(x, 0, 1, 0, 5, 1, 5, 7, 5);
        DUE.is("listen", x.listen(0, 1), 1);
        DUE.is("none", x.listen(0, 2), -1);
        DUE.is("not refused", x.status(11), 0);
        DUE.is("-11", x.listen(8, 1), -11);
        DUE.is("-12", x.listen(1, 1), -12);
        DUE.is("-13", x.listen(2, 1), -13);
        DUE.is("-14", x.listen(0, -1), -14);
        DUE.is("-15", x.listen(0, 4), -15);
        DUE.is("-16", x.listen(0, 3), -16);
        for (int i = 1; i <= 6; i++) {
            DUE.is("counted as -" + i, x.status(10 + i), 1);
        }
        DUE.is("not as -7", x.status(17), 0);
    }

    private static void enough() {
        DUE.promise(27, "ENOUGH (m 0 to 500); NONE. -11; -16 (counted as -1, -6).");
        TubesOfCourt x = Due.line(2, 9, 9);
        x.desk();
        x.capsule(0, 0, 1, 0);
        DUE.is("0", x.enough(0, 1, 0), -1);
        DUE.is("1", x.enough(0, 1, 1), 9);
        DUE.is("2", x.enough(0, 1, 2), 5);
        DUE.is("500", x.enough(0, 1, 500), 1);
        DUE.is("no way", x.enough(0, 2, 500), -1);
        DUE.is("not refused", x.status(11), 0);
        DUE.is("501", x.enough(0, 1, 501), -16);
        DUE.is("-1", x.enough(0, 1, -1), -16);
        DUE.is("desk 3", x.enough(0, 3, 1), -11);
        DUE.is("counted as -1", x.status(11), 1);
        DUE.is("counted as -6", x.status(16), 2);
        DUE.is("the pressure stays", x.status(3), 5);
    }

    private static void tree() {
        DUE.promise(28, "TREE: how much (what 0), which (1); NONE. -15 another what (counted as -5).");
        TubesOfCourt x = Due.withDesks(2);
        DUE.is("none", x.tree(0), -1);
        DUE.is("none, which", x.tree(1), -1);
        x.tube(1, 0, 9, 1);
        x.shut(0, true);
        DUE.is("how much", x.tree(0), 9);
        DUE.is("which", x.tree(1), 1);
        DUE.is("what 2", x.tree(2), -15);
        DUE.is("what -1", x.tree(-1), -15);
        DUE.is("counted as -5", x.status(15), 2);
    }

    private static void seat() {
        DUE.promise(29, "SEAT (what 0), LATEST (1). -1; -5 another what.");
        TubesOfCourt x = Due.line(8, 9, 9);
        x.capsule(CAT, 0, 1, 7);
        DUE.is("seat", x.seat(0, 0), 3);
        DUE.is("latest", x.seat(0, 1), 36);
        DUE.is("what 2", x.seat(0, 2), -5);
        DUE.is("what -1", x.seat(0, -1), -5);
        DUE.is("capsule 1", x.seat(1, 0), -1);
        DUE.is("no capsules", new TubesOfCourt().seat(0, 0), -1);
    }

    private static TubesOfCourt day(int legs) {
        TubesOfCourt x = Due.line(2, 9, 9);
        x.desk();
        x.capsule(CAT, 0, 1, 0);
        x.row(0, 1, legs);
        for (int i = 0; i < legs; i++) {
            x.set(0, i, i % 2 == 0 ? 11 : 0);
        }
        return x;
    }

    private static void judge() {
        DUE.promise(30, "A told DAY by the first n elements (0 to 40) of the ROW in SHELF s: WRONG; NONE. "
            + "-11; -12; -13; -14 n; -15 fewer elements; -16 n above 40 (counted as -1 to -6).");
        TubesOfCourt x = day(42);
        x.set(0, 39, 20);
        DUE.is("none of none", x.judge(0, 0), -1);
        DUE.is("39", x.judge(0, 39), -1);
        DUE.is("40, of which the last is wrong", x.judge(0, 40), 39);
        x.set(0, 0, -1);
        DUE.is("and the first", x.judge(0, 40), 0);
        DUE.is("and none of none yet", x.judge(0, 0), -1);
        x.row(1, 0, 0);
        DUE.is("none of a row of none", x.judge(1, 0), -1);
        DUE.is("one of a row of none", x.judge(1, 1), -15);
        DUE.is("41", x.judge(0, 41), -16);
        DUE.is("42", x.judge(0, 42), -16);
        DUE.is("43", x.judge(0, 43), -15);
        DUE.is("-1", x.judge(0, -1), -14);
        DUE.is("nothing", x.judge(2, 0), -13);
        DUE.is("shelf 8", x.judge(8, 0), -11);
        x.show(2, 0);
        DUE.is("a capsule", x.judge(2, 0), -12);
        int[] due = {1, 1, 1, 1, 2, 2};
        for (int i = 1; i <= 6; i++) {
            DUE.is("counted as -" + i, x.status(10 + i), due[i - 1]);
        }
    }

    private static void behind() {
        DUE.promise(31, "BEHIND it: minutes (what 0), how often signed (1), where CAPSULE 0 is (2). -1; -2; -3; -4; "
            + "-5 also another what, there is no CAPSULE (2); -6 also if it is WRONG.");
        TubesOfCourt x = day(41);
        int[][] due = {{0, 0, 0}, {9, 1, 1}, {18, 1, 0}};
        for (int n = 0; n < 3; n++) {
            for (int what = 0; what < 3; what++) {
                DUE.is("behind " + n + ", " + what, x.behind(0, n, what), due[n][what]);
            }
        }
        DUE.is("40", x.behind(0, 40, 0), 360);
        DUE.is("41", x.behind(0, 41, 0), -6);
        DUE.is("42", x.behind(0, 42, 0), -5);
        DUE.is("what 3", x.behind(0, 0, 3), -5);
        DUE.is("what -1", x.behind(0, 0, -1), -5);
        x.set(0, 1, 20);
        DUE.is("wrong", x.behind(0, 2, 1), -6);
        DUE.is("ahead of it", x.behind(0, 1, 1), 1);
        TubesOfCourt y = new TubesOfCourt();
        y.row(0, 0, 1);
        DUE.is("no capsule", y.behind(0, 0, 2), -5);
        DUE.is("no capsule, minutes", y.behind(0, 0, 0), 0);
        DUE.is("no capsule, signed", y.behind(0, 0, 1), 0);
        DUE.is("a leg of none", y.behind(0, 1, 0), -6);
    }

    private static void done() {
        DUE.promise(32, "It comes to pass in truth: MINUTES. -1; -2; -3; -4; -5; -6 likewise.");
        TubesOfCourt x = day(41);
        DUE.is("none", x.done(0, 0), 0);
        DUE.is("41", x.done(0, 41), -6);
        DUE.is("42", x.done(0, 42), -5);
        DUE.is("-1", x.done(0, -1), -4);
        DUE.is("40", x.done(0, 40), 360);
        DUE.is("signed", x.signed(1), 20);
        DUE.is("one", x.done(0, 1), 369);
        DUE.is("he is there", x.capsuleOf(0, 3), 1);
        DUE.is("none, all minutes", x.done(0, 0), 369);
        x.set(0, 1, 20);
        DUE.is("wrong", x.done(0, 2), -6);
        DUE.is("nothing of it", x.status(4), 369);
        DUE.is("nothing signed", x.signed(1), 21);
    }

    private static void send() {
        DUE.promise(33, "A leg in truth: its minutes. -1; -6 no WAY.");
        TubesOfCourt x = day(0);
        DUE.is("there", x.send(0, 1, false), 9);
        DUE.is("there yet", x.send(0, 1, true), 0);
        DUE.is("back", x.send(0, 0, false), 9);
        DUE.is("no way", x.send(0, 2, true), -6);
        DUE.is("desk 3", x.send(0, 3, true), -1);
        DUE.is("capsule 1", x.send(1, 0, true), -1);
        DUE.is("minutes", x.status(4), 18);
        DUE.is("signed", x.status(5), 1);
    }

    private static void months() {
        DUE.promise(34, "MONTHS, n legs (1 to 60): MINUTES. -5 no CAPSULES; -6.");
        TubesOfCourt x = day(0);
        TubesOfCourt y = day(0);
        for (int n : new int[] {1, 60}) {
            for (int i = 0; i < n; i++) {
                y.months(1);
            }
            DUE.is("n " + n, x.months(n), y.status(4));
            DUE.is("its seed", x.status(7), y.status(7));
        }
        int seed = x.status(7);
        DUE.is("0", x.months(0), -6);
        DUE.is("61", x.months(61), -6);
        DUE.is("the seed stays", x.status(7), seed);
        TubesOfCourt none = Due.withDesks(1);
        DUE.is("no capsules", none.months(1), -5);
        DUE.is("the seed stays", none.status(7), 1);
    }

    private static void seed() {
        DUE.promise(35, "SEED becomes v: what it was (nothing is refused).");
        TubesOfCourt x = new TubesOfCourt();
        int was = 1;
        for (int v : new int[] {0, -1, Due.HIGH, Due.LOW, 1}) {
            DUE.is("seed(" + v + ")", x.seed(v), was);
            DUE.is("status(7)", x.status(7), v);
            was = v;
        }
        for (int what = 11; what <= 17; what++) {
            DUE.is("refused", x.status(what), 0);
        }
    }

    private static void act() {
        DUE.promise(36, "A MOVE of a CAPSULE with x. 0, and no TRACE then: no such CAPSULE, move.");
        TubesOfCourt x = Due.withDesks(1);
        for (int c = 0; c < 5; c++) {
            x.capsule(0, 0, 1, 0);
        }
        DUE.is("the last", x.act(4, 0, 6), 10);
        int[][] none = {{5, 0}, {-1, 0}, {4, 3}, {4, -1}, {Due.LOW, Due.HIGH}};
        for (int[] call : none) {
            DUE.is("ahead", x.act(4, 2, 6), 20 ^ 10);
            DUE.is("a trace", x.trace(0), 12);
            DUE.is("none such", x.act(call[0], call[1], 6), 0);
            DUE.is("no trace", x.trace(0), -1);
            DUE.is("none ran", x.status(8), 0);
        }
        DUE.is("no refusal", x.status(11) + x.status(15) + x.status(16), 0);
    }

    private static void trace() {
        DUE.promise(37, "THE TRACE's i-th body. NONE: none such.");
        TubesOfCourt x = Due.withDesks(1);
        x.capsule(6, 1, 1, 0);
        DUE.is("ahead of all", x.trace(0), -1);
        x.act(0, 2, 5);
        int[] due = {12, 71, 30, 11, 70, 20, 10, 70, 20, 10, -1};
        for (int i = 0; i < due.length; i++) {
            DUE.is("the " + i + "-th", x.trace(i), due[i]);
        }
        for (int i : new int[] {Due.LOW, -1, 19, 20, Due.HIGH}) {
            DUE.is("the " + i + "-th", x.trace(i), -1);
        }
    }

    private static void image() {
        DUE.promise(38, "THE IMAGE of all but SHELVES (and THE IMAGE, REFUSALS, the FAULT, THE TRACE) is taken: "
            + "how many CAPSULES.");
        TubesOfCourt x = new TubesOfCourt();
        DUE.is("of nothing", x.image(), 0);
        x.desk();
        x.desk();
        x.tube(0, 1, 9, 9);
        for (int c = 0; c < 5; c++) {
            x.capsule(CAT, c, 1, 0);
        }
        x.shut(0, true);
        x.ask(9);
        x.seed(77);
        x.send(4, 1, true);
        DUE.is("of five", x.image(), 5);
        String ahead = Due.stateOf(x);
        x.desk();
        x.tube(1, 2, 1, 1);
        x.shut(0, false);
        x.ask(1);
        x.months(9);
        x.row(3, 2, 1);
        Due.putText(x, 4, "x");
        x.plan(4);
        x.act(0, 0, 0);
        x.restore();
        DUE.is("a shelf is not of it", x.holds(3), 102);
        DUE.is("nor refusals", x.status(16), 1);
        DUE.is("nor the fault", x.fault(), 0);
        DUE.is("nor the trace", x.trace(0), 10);
        x.show(3, -1);
        x.show(4, -1);
        DUE.holds("all else is", Due.stateOf(x).equals(ahead));
        imageOfAll();
    }

    private static void imageOfAll() {
        TubesOfCourt x = Due.withDesks(8);
        for (int t = 0; t < 16; t++) {
            x.tube(t % 7, 7, 1 + t % 9, 9 - t % 9);
        }
        for (int c = 0; c < 5; c++) {
            x.capsule(2 + c, 9 - c, 9 - c, 7 - c);
        }
        x.shut(15, true);
        x.send(3, 7, true);
        String ahead = Due.stateOf(x);
        x.image();
        x.months(20);
        x.shut(15, false);
        x.restore();
        DUE.holds("all of a full one", Due.stateOf(x).equals(ahead));
    }

    private static void restore() {
        DUE.promise(39, "All is as THE IMAGE has it; SHELVES with CAPSULES hold those of these numbers, or NOTHING: "
            + "how many CAPSULES. -6 there is none.");
        TubesOfCourt x = Due.withDesks(1);
        DUE.is("no image", x.restore(), -6);
        DUE.is("the desk stays", x.status(0), 1);
        x.capsule(1, 0, 3, 0);
        x.capsule(1, 0, 4, 0);
        x.image();
        x.restore();
        for (int c = 2; c < 5; c++) {
            x.capsule(1, 0, 3 + c, 0);
        }
        for (int s = 0; s < 5; s++) {
            x.show(s, s);
        }
        x.row(5, 3, 160);
        x.row(6, 0, 160);
        x.show(7, 2);
        DUE.is("how many", x.restore(), 2);
        int[] due = {0, 1, -1, -1, -1, 103, 100, -1};
        for (int s = 0; s < 8; s++) {
            DUE.is("shelf " + s, x.holds(s), due[s]);
        }
        DUE.is("that of this number", x.says(1, 1), 4);
        DUE.is("again", x.restore(), 2);
        x.capsule(1, 0, 9, 0);
        DUE.is("a new one is shown nowhere", x.holds(2), -1);
        x.image();
        DUE.is("the later image", x.restore(), 3);
        for (int s = 0; s < 8; s++) {
            x.capsule(1, 0, 9, 0);
            x.show(s, 3);
        }
        x.restore();
        for (int s = 0; s < 8; s++) {
            DUE.is("nothing on shelf " + s, x.holds(s), -1);
        }
        restoreDrops();
    }

    /** What came behind the image is in no answer, as if it had never been. */
    private static void restoreDrops() {
        TubesOfCourt x = Due.line(3, 4, 9);
        x.capsule(QUEEN, 1, 2, 0);
        x.capsule(0, 1, 2, 2);
        x.image();
        String due = asked(x);
        for (int d = 3; d < 8; d++) {
            x.desk();
        }
        for (int t = 2; t < 16; t++) {
            x.tube(t % 8, (t + 2) % 8, 1, 9);
        }
        x.tube(0, 2, 1, 9);
        for (int c = 2; c < 5; c++) {
            x.capsule(CAT, 1, 2, 0);
        }
        DUE.holds("other answers", !asked(x).equals(due));
        x.restore();
        DUE.holds("the answers of the image", asked(x).equals(due));
        DUE.is("a desk", x.desk(), 3);
        DUE.is("a tube", x.tube(3, 0, 1, 9), 2);
        DUE.is("joined by it alone", x.way(1, 3, 2), 3);
        DUE.is("not through those that were", x.cut(1, 3, 1), 7);
    }

    private static String asked(TubesOfCourt x) {
        StringBuilder all = new StringBuilder();
        Due.putRow(x, 7, 1, 2, 5);
        for (int c = 0; c < 2; c++) {
            for (int d = 0; d < 3; d++) {
                for (int what = 0; what < 3; what++) {
                    all.append(x.way(c, d, what)).append(' ').append(x.cut(c, d, what)).append(' ');
                }
                all.append(x.enough(c, d, 4)).append(' ').append(x.round(c, 7, 1, d)).append(' ');
            }
            all.append(x.within(c, 9)).append(' ').append(x.within(c, -1)).append(' ');
            all.append(x.seat(c, 0)).append(' ').append(x.seat(c, 1)).append(' ');
            all.append(x.meet(0, 1, c)).append(' ').append(x.tree(c)).append(' ');
        }
        return all.append(x.stuck(7, 1)).append(' ').append(x.listen(7, 1)).toString();
    }

    private static void status() {
        DUE.promise(40, "0 DESKS, 1 TUBES, 2 CAPSULES, 3 PRESSURE, 4 MINUTES, 5 SIGNED together, 6 SHUT TUBES, 7 SEED, "
            + "8 bodies that ran in the latest act() (all, kept or not); 11 to 17: REFUSALS -1 to -7. "
            + "NONE for another what.");
        TubesOfCourt x = Due.withDesks(8);
        for (int t = 0; t < 16; t++) {
            x.tube(t % 2, 7 - t % 2, 9, 9);
            x.shut(t, true);
        }
        for (int c = 0; c < 5; c++) {
            x.capsule(CAT, 0, 1, 0);
            x.send(c, c < 4 ? 7 : 0, true);
        }
        x.ask(9);
        x.seed(Due.LOW);
        x.act(0, 2, 0);
        int[] due = {8, 16, 5, 9, 36, 5, 16, Due.LOW, 5};
        for (int what = 0; what < due.length; what++) {
            DUE.is("status(" + what + ")", x.status(what), due[what]);
        }
        for (int what : new int[] {Due.LOW, -1, 9, 10, 18, 19, Due.HIGH}) {
            DUE.is("another what", x.status(what), -1);
        }
        x.time(5, 0);
        x.way(5, 0, 0);
        x.tubeOf(0, 5);
        x.desk();
        int[] refused = {2, 0, 0, 0, 1, 0, 1};
        for (int i = 0; i < refused.length; i++) {
            DUE.is("status(" + (11 + i) + ")", x.status(11 + i), refused[i]);
        }
    }
}
