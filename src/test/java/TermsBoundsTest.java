import java.util.Arrays;

/** "Terms": THE MINISTRY, a PLAN, SHELVES, MOVES: each sentence that names a boundary. */
public final class TermsBoundsTest {
    private static final Due DUE = new Due();
    private static final int[] NUMBERS = {Due.LOW, -10, -1, 0, 1, 2, 5, 8, 9, 10, 11, 99, Due.HIGH};
    private static final int[] ABOVE = {-1, 0, 1, 0, 3, 0, 2};

    public static void main(String[] args) {
        desks();
        signed();
        tubes();
        ends();
        lengths();
        bores();
        shut();
        capsules();
        kinds();
        smallA();
        weights();
        at();
        pressure();
        minutes();
        planItems();
        planNumbers();
        planBlanks();
        planOrNothing();
        planRoom();
        planFault();
        planNumberFault();
        shelves();
        rows();
        lowestBits();
        asInts();
        moves();
        trace();
        draws();
        drawsBelow();
        DUE.end();
    }

    private static void desks() {
        DUE.sentence("DESKS have numbers, from 0 on, 8 at most");
        TubesOfCourt x = new TubesOfCourt();
        for (int d = 0; d < 8; d++) {
            DUE.is("status(0)", x.status(0), d);
            DUE.is("desk()", x.desk(), d);
        }
        DUE.is("the ninth", x.desk(), -7);
        DUE.is("status(0)", x.status(0), 8);
    }

    private static void signed() {
        DUE.sentence("SIGNED (0 to 999; 0 at first)");
        TubesOfCourt x = Due.line(2, 1, 1);
        DUE.is("at first", x.signed(0), 0);
        DUE.is("at first", x.signed(1), 0);
        x.capsule(5, 0, 1, 0);
        x.row(0, 0, 40);
        for (int i = 0; i < 40; i++) {
            x.set(0, i, 1);
        }
        for (int i = 0; i < 24; i++) {
            x.done(0, 40);
        }
        x.done(0, 38);
        DUE.is("998", x.signed(0), 998);
        x.send(0, 0, true);
        DUE.is("999", x.signed(0), 999);
        x.send(0, 0, true);
        DUE.is("999 behind a leg", x.signed(0), 999);
        x.done(0, 40);
        DUE.is("999 behind a day", x.signed(0), 999);
        x.months(60);
        DUE.is("999 behind months", x.signed(0), 999);
        DUE.is("together with the other", x.status(5), 999 + x.signed(1));
    }

    private static void tubes() {
        DUE.sentence("TUBES have numbers, from 0 on, 16 at most");
        TubesOfCourt x = Due.withDesks(2);
        for (int t = 0; t < 16; t++) {
            DUE.is("status(1)", x.status(1), t);
            DUE.is("tube", x.tube(t & 1, 1 - (t & 1), 1, 1), t);
        }
        DUE.is("the seventeenth", x.tube(0, 1, 1, 1), -7);
        DUE.is("status(1)", x.status(1), 16);
    }

    private static void ends() {
        DUE.sentence("between two DESKS (FROM, TO; not one and the same)");
        int[] ends = {Due.LOW, -1, 0, 1, 2, 3, 8, Due.HIGH};
        for (int from : ends) {
            for (int to : ends) {
                TubesOfCourt x = Due.withDesks(3);
                boolean desks = from >= 0 && from < 3 && to >= 0 && to < 3;
                DUE.is("tube " + from + " " + to, x.tube(from, to, 1, 1), !desks ? -1 : from == to ? -6 : 0);
                DUE.is("status(1)", x.status(1), desks && from != to ? 1 : 0);
            }
        }
    }

    private static int ifOneToNine(int v, int number) {
        return v >= 1 && v <= 9 ? number : -6;
    }

    private static void lengths() {
        DUE.sentence("LENGTH (1 to 9)");
        for (int v : NUMBERS) {
            TubesOfCourt x = Due.withDesks(2);
            DUE.is("length " + v, x.tube(0, 1, v, 1), ifOneToNine(v, 0));
            DUE.is("tubeOf", x.tubeOf(0, 2), v >= 1 && v <= 9 ? v : -5);
        }
    }

    private static void bores() {
        DUE.sentence("BORE (1 to 9)");
        for (int v : NUMBERS) {
            TubesOfCourt x = Due.withDesks(2);
            DUE.is("bore " + v, x.tube(0, 1, 1, v), ifOneToNine(v, 0));
            DUE.is("tubeOf", x.tubeOf(0, 3), v >= 1 && v <= 9 ? v : -5);
        }
    }

    private static void shut() {
        DUE.sentence("SHUT or not (not at first)");
        TubesOfCourt x = Due.withDesks(2);
        x.image();
        x.tube(0, 1, 1, 1);
        DUE.is("at first", x.tubeOf(0, 4), 0);
        x.shut(0, true);
        DUE.is("shut", x.tubeOf(0, 4), 1);
        x.tube(0, 1, 1, 1);
        DUE.is("another", x.tubeOf(1, 4), 0);
        x.restore();
        x.tube(0, 1, 1, 1);
        DUE.is("a new one of a number that was shut", x.tubeOf(0, 4), 0);
        Due.putText(x, 0, "shut 0;tube 1 0 1 1");
        x.plan(0);
        DUE.is("one of a plan", x.tubeOf(1, 4), 0);
    }

    private static void capsules() {
        DUE.sentence("CAPSULES have numbers, from 0 on, 5 at most");
        TubesOfCourt x = Due.withDesks(1);
        for (int c = 0; c < 5; c++) {
            DUE.is("status(2)", x.status(2), c);
            DUE.is("capsule", x.capsule(c, 0, 1, 0), c);
        }
        DUE.is("the sixth", x.capsule(0, 0, 1, 0), -7);
        DUE.is("status(2)", x.status(2), 5);
    }

    private static boolean isUnder(int kind, int wanted) {
        int above = kind;
        while (above >= 0 && above != wanted) {
            above = ABOVE[above];
        }
        return above == wanted;
    }

    private static void kinds() {
        DUE.sentence("0 CAPSULE; 1 KING, 3 MINISTER, 5 CAT, each under CAPSULE; 2 RIVAL, under KING; "
            + "4 QUEEN, under MINISTER; 6 DENTED, under RIVAL");
        for (int kind : new int[] {Due.LOW, -1, 7, 8, Due.HIGH}) {
            TubesOfCourt x = Due.withDesks(1);
            DUE.is("kind " + kind, x.capsule(kind, 0, 1, 0), -1);
        }
        for (int kind = 0; kind < 7; kind++) {
            TubesOfCourt x = Due.withDesks(1);
            DUE.is("kind " + kind, x.capsule(kind, 0, 1, 0), 0);
            DUE.is("capsuleOf", x.capsuleOf(0, 0), kind);
            x.show(0, 0);
            for (int asked = 0; asked < 7; asked++) {
                DUE.holds(kind + " is a " + asked, (x.says(0, asked) == -2) != isUnder(kind, asked));
            }
        }
    }

    private static void smallA() {
        DUE.sentence("a (0 to 9)");
        for (int v : NUMBERS) {
            TubesOfCourt x = Due.withDesks(1);
            boolean may = v >= 0 && v <= 9;
            DUE.is("a " + v, x.capsule(0, v, 1, 0), may ? 0 : -6);
            DUE.is("capsuleOf", x.capsuleOf(0, 1), may ? v : -5);
        }
    }

    private static void weights() {
        DUE.sentence("WEIGHT (1 to 9)");
        for (int v : NUMBERS) {
            TubesOfCourt x = Due.withDesks(1);
            DUE.is("weight " + v, x.capsule(0, 0, v, 0), ifOneToNine(v, 0));
            DUE.is("capsuleOf", x.capsuleOf(0, 2), v >= 1 && v <= 9 ? v : -5);
        }
    }

    private static void at() {
        DUE.sentence("AT (a DESK)");
        for (int v : NUMBERS) {
            TubesOfCourt x = Due.withDesks(3);
            boolean may = v >= 0 && v <= 2;
            DUE.is("at " + v, x.capsule(0, 0, 1, v), may ? 0 : -1);
            DUE.is("capsuleOf", x.capsuleOf(0, 3), may ? v : -5);
        }
        DUE.is("no desks", new TubesOfCourt().capsule(0, 0, 1, 0), -1);
    }

    private static void pressure() {
        DUE.sentence("PRESSURE (1 to 9; 5 at first)");
        for (int v : NUMBERS) {
            TubesOfCourt x = new TubesOfCourt();
            DUE.is("at first", x.status(3), 5);
            DUE.is("ask " + v, x.ask(v), ifOneToNine(v, 5));
            DUE.is("status(3)", x.status(3), v >= 1 && v <= 9 ? v : 5);
        }
    }

    private static void minutes() {
        DUE.sentence("MINUTES (how many have gone by in truth; 0 at first)");
        TubesOfCourt x = Due.line(2, 9, 9);
        x.capsule(5, 0, 1, 0);
        DUE.is("at first", x.status(4), 0);
        Due.putRow(x, 0, 0, 10, 0);
        x.judge(0, 2);
        x.behind(0, 2, 0);
        x.way(0, 1, 0);
        x.round(0, 3, 60, -1);
        DUE.is("nothing in truth", x.status(4), 0);
        x.done(0, 2);
        DUE.is("a day", x.status(4), 18);
        x.send(0, 1, false);
        DUE.is("a leg", x.status(4), 27);
    }

    /** Two desks, a tube, no capsule. */
    private static TubesOfCourt planned(String text) {
        TubesOfCourt x = Due.line(2, 1, 1);
        Due.putText(x, 0, text);
        return x;
    }

    private static void stands(String text, int items) {
        TubesOfCourt x = planned(text);
        DUE.is("plan of '" + text + "'", x.plan(0), items);
        DUE.is("fault of '" + text + "'", x.fault(), -1);
    }

    private static void fails(String text, int fault) {
        TubesOfCourt x = planned(text);
        DUE.is("plan of '" + text + "'", x.plan(0), -6);
        DUE.is("fault of '" + text + "'", x.fault(), fault);
    }

    private static void planItems() {
        DUE.sentence("A PLAN is read from a ROW of letters: ITEM, then any number of times ; and ITEM");
        fails("", 0);
        fails(";", 0);
        stands("shut 0", 1);
        fails("shut 0;", 7);
        fails("shut 0;;open 0", 7);
        stands("shut 0;open 0", 2);
        String full = "shut 0;".repeat(22) + "open 0";
        DUE.is("as long as a row may be", full.length(), 160);
        stands(full, 23);
        fails(full.substring(0, 159), 159);
        fails(full.substring(0, 159) + "x", 159);
        fails(full.substring(0, 159) + "1", 159);
        fails("shut 0;".repeat(16) + "shut 00;".repeat(6), 160);
    }

    private static void planNumbers() {
        DUE.sentence("desk; tube D D L B (two DESKS; the second may not be the first); "
            + "capsule K A W D; shut T; open T; pressure N.");
        stands("tube 0 1 1 1", 1);
        stands("tube 1 0 9 9", 1);
        fails("tube 2 1 1 1", 5);
        fails("tube 0 2 1 1", 7);
        fails("tube 0 0 1 1", 7);
        fails("tube 1 1 1 1", 7);
        fails("tube 0 1 0 1", 9);
        fails("tube 0 1 10 1", 9);
        fails("tube 0 1 1 0", 11);
        fails("tube 0 1 1 10", 11);
        stands("capsule 0 0 1 0", 1);
        stands("capsule 6 9 9 1", 1);
        fails("capsule 7 0 1 0", 8);
        fails("capsule 0 10 1 0", 10);
        fails("capsule 0 0 0 0", 12);
        fails("capsule 0 0 10 0", 12);
        fails("capsule 0 0 1 2", 14);
        stands("shut 0", 1);
        fails("shut 1", 5);
        stands("open 0", 1);
        fails("open 1", 5);
        stands("pressure 1", 1);
        stands("pressure 9", 1);
        fails("pressure 0", 9);
        fails("pressure 10", 9);
        stands("desk;tube 2 0 1 1;shut 1;capsule 0 0 1 2", 4);
        fails("shut 1;tube 0 1 1 1", 5);
    }

    private static void planBlanks() {
        DUE.sentence("One blank between words and NUMBERS (1 to 2 digits).");
        fails("shut0", 4);
        fails("shut  0", 5);
        fails("shut\t0", 4);
        fails("shut 0 ", 6);
        fails(" shut 0", 0);
        fails("shut 0 ;desk", 6);
        fails("shut 0; desk", 7);
        fails("tube 01 0 1", 11);
        fails("tube 0 1  1 1", 9);
        fails("tube 0 1 1,1", 10);
        fails("shut ", 5);
        fails("shut ;", 5);
        fails("shut /", 5);
        fails("shut :", 5);
        stands("shut 0", 1);
        stands("shut 00", 1);
        fails("shut 000", 7);
        fails("pressure 009", 9);
        fails("pressure 010", 11);
        fails("pressure 09;pressure 099", 23);
    }

    private static void planOrNothing() {
        DUE.sentence("All is told over what there is, or nothing");
        TubesOfCourt x = planned("desk;tube 2 0 3 4;capsule 4 3 2 2;shut 0;pressure 7");
        x.capsule(1, 1, 1, 1);
        DUE.is("plan", x.plan(0), 5);
        int[] status = {3, 2, 2, 7, 0, 0, 1, 1};
        for (int what = 0; what < status.length; what++) {
            DUE.is("status(" + what + ")", x.status(what), status[what]);
        }
        DUE.is("what there was", x.capsuleOf(0, 0), 1);
        DUE.is("what is told", x.capsuleOf(1, 0), 4);
        Due.putText(x, 0, "shut 1;pressure 8;tube 2 0 3 4;capsule 1 2 3 0");
        DUE.is("plan", x.plan(0), 4);
        DUE.is("an item tells nothing but its own: what is shut", x.status(6), 2);
        DUE.is("the pressure", x.status(3), 8);
        int[] tube = {2, 0, 3, 4, 0};
        for (int what = 0; what < tube.length; what++) {
            DUE.is("the tube's " + what, x.tubeOf(2, what), tube[what]);
        }
        int[] capsule = {1, 2, 3, 0};
        for (int what = 0; what < capsule.length; what++) {
            DUE.is("the capsule's " + what, x.capsuleOf(2, what), capsule[what]);
        }
        Due.putText(x, 0, "desk;tube 3 0 3 4;capsule 4 3 2 3;open 0;shut 1;pressure 1;desc");
        String ahead = Due.stateOf(x);
        DUE.is("plan", x.plan(0), -6);
        DUE.holds("nothing", Due.stateOf(x).equals(ahead));
    }

    private static void planRoom() {
        DUE.sentence("what there is no room for can't stand: its word, once that is whole");
        fails("desk;".repeat(6) + "desk", 30);
        stands("desk;".repeat(5) + "desk", 6);
        fails("desk;".repeat(6) + "desk;tube 0 0", 30);
        String capsule = "capsule 0 0 1 0;";
        stands(capsule.repeat(4) + "capsule 0 0 1 0", 5);
        fails(capsule.repeat(5) + "capsule 0 0 1 0", 80);
        fails(capsule.repeat(5) + "capsule", 80);
        fails(capsule.repeat(5) + "capsul", 86);
        TubesOfCourt x = Due.withDesks(3);
        for (int t = 0; t < 15; t++) {
            x.tube(0, 1, 1, 1);
        }
        Due.putText(x, 0, "tube 1 0 1 1;tube 0 1 1 1");
        DUE.is("a seventeenth", x.plan(0), -6);
        DUE.is("its word", x.fault(), 13);
        DUE.is("nothing told", x.status(1), 15);
        Due.putText(x, 0, "tube 2 1 8 7;shut 15" + ";capsule 6 5 4 1".repeat(5));
        DUE.is("the sixteenth", x.plan(0), 7);
        DUE.is("told", x.status(1), 16);
        int[] tube = {2, 1, 8, 7, 1};
        for (int what = 0; what < tube.length; what++) {
            DUE.is("its " + what, x.tubeOf(15, what), tube[what]);
        }
        int[] fifth = {6, 5, 4, 1};
        for (int what = 0; what < fifth.length; what++) {
            DUE.is("the fifth capsule's " + what, x.capsuleOf(4, what), fifth[what]);
        }
    }

    private static void planFault() {
        DUE.sentence("The FAULT: the first place at which an element can't stand as such texts go on "
            + "(the number of elements, if it ends too early)");
        String text = "desk;tube 0 1 3 4;capsule 2 1 4 0;shut 0;open 1;pressure 7";
        stands(text, 6);
        int[] ends = {4, 17, 33, 40, 47};
        for (int i = 0; i < text.length(); i++) {
            fails(text.substring(0, i) + "~" + text.substring(i + 1), i);
            fails(text.substring(0, i) + "~", i);
            int items = 1 + Arrays.binarySearch(ends, i);
            if (items > 0) {
                stands(text.substring(0, i), items);
            } else {
                fails(text.substring(0, i), i);
            }
        }
        fails(text + "~", text.length());
    }

    private static void planNumberFault() {
        DUE.sentence("of a NUMBER that may not be the place of its first digit");
        fails("tube 20 1 1 1", 5);
        fails("tube 02 1 1 1", 5);
        fails("tube 0 00 1 1", 7);
        fails("tube 0 01 99 1", 10);
        fails("tube 00 01 09 00", 14);
        fails("capsule 07 00 01 00", 8);
        fails("capsule 00 99 01 00", 11);
        fails("shut 10", 5);
        fails("open 99", 5);
        fails("pressure 00", 9);
        fails("pressure 12", 9);
        fails("pressure 123", 9);
        fails("pressure 0;desk", 9);
        fails("desk;shut 01", 10);
    }

    private static void shelves() {
        DUE.sentence("SHELVES 0 to 7 hold NOTHING (at first), a ROW, or a CAPSULE.");
        for (int s : new int[] {Due.LOW, -1, 0, 1, 2, 3, 4, 5, 6, 7, 8, Due.HIGH}) {
            boolean is = s >= 0 && s <= 7;
            TubesOfCourt x = Due.withDesks(1);
            x.capsule(0, 0, 1, 0);
            DUE.is("at first, shelf " + s, x.holds(s), -1);
            DUE.is("a row", x.row(s, 2, 1), is ? 1 : -1);
            DUE.is("holds it", x.holds(s), is ? 102 : -1);
            DUE.is("a capsule", x.show(s, 0), is ? 1 : -1);
            DUE.is("holds it", x.holds(s), is ? 0 : -1);
            DUE.is("nothing", x.show(s, -1), is ? 0 : -1);
            DUE.is("holds it", x.holds(s), -1);
        }
    }

    private static void rows() {
        DUE.sentence("A ROW has a SORT (0 bytes, 1 shorts, 2 ints, 3 longs) and 0 to 160 elements, 0 at first");
        for (int sort : new int[] {Due.LOW, -1, 0, 1, 2, 3, 4, Due.HIGH}) {
            TubesOfCourt x = new TubesOfCourt();
            boolean is = sort >= 0 && sort <= 3;
            DUE.is("sort " + sort, x.row(0, sort, 160), is ? 1 : -6);
            DUE.is("holds", x.holds(0), is ? 100 + sort : -1);
        }
        for (int n : new int[] {Due.LOW, -1, 0, 1, 159, 160, 161, Due.HIGH}) {
            TubesOfCourt x = new TubesOfCourt();
            boolean is = n >= 0 && n <= 160;
            DUE.is("elements " + n, x.row(0, 1, n), n < 0 ? -4 : is ? 1 : -7);
            DUE.is("holds", x.holds(0), is ? 101 : -1);
            if (is) {
                DUE.is("the last", x.set(0, n - 1, 5), n == 0 ? -5 : 1);
                DUE.is("behind the last", x.set(0, n, 5), -5);
                x.row(0, 1, n);
                DUE.is("0 at first", x.element(0, n - 1), 0);
            }
        }
    }

    private static void lowestBits() {
        DUE.sentence("what is put in keeps its lowest bits");
        int[] bits = {8, 16, 32};
        for (int sort = 0; sort < 3; sort++) {
            TubesOfCourt x = new TubesOfCourt();
            x.row(0, sort, 1);
            long whole = 1L << bits[sort];
            long half = whole / 2;
            long[] puts = {half - 1, half, half + 1, whole - 1, whole, whole + 7, -half, -half - 1, -1, -whole,
                Long.MAX_VALUE, Long.MIN_VALUE};
            for (long put : puts) {
                long due = Math.floorMod(put, whole);
                x.set(0, 0, put);
                DUE.is("sort " + sort + " of " + put, x.element(0, 0), due >= half ? due - whole : due);
            }
        }
        TubesOfCourt x = new TubesOfCourt();
        x.row(0, 3, 1);
        for (long put : new long[] {Long.MAX_VALUE, Long.MIN_VALUE, -1L, 1L << 32}) {
            x.set(0, 0, put);
            DUE.is("a long", x.element(0, 0), put);
        }
    }

    private static void asInts() {
        DUE.sentence("(As ints: of longs the lowest 32 bits.)");
        TubesOfCourt x = Due.withDesks(1);
        x.capsule(0, 0, 1, 0);
        Due.putRow(x, 0, 3, (7L << 32) + 1);
        DUE.is("a leg", x.judge(0, 1), -1);
        Due.putRow(x, 0, 3, 1L << 31);
        DUE.is("a leg below 0", x.judge(0, 1), 0);
        Due.putRow(x, 0, 3, (1L << 31) - 1);
        DUE.is("a leg far above", x.judge(0, 1), 0);
        DUE.is("the element itself", x.element(0, 0), (1L << 31) - 1);
    }

    private static void moves() {
        DUE.sentence("MOVES of CAPSULES, with x (wrapping): 0 hisses, 1 lands, 2 signs");
        TubesOfCourt x = Due.withDesks(1);
        x.capsule(0, 0, 1, 0);
        x.capsule(0, 3, 1, 0);
        x.capsule(3, 3, 1, 0);
        DUE.is("hisses", x.act(1, 0, Due.HIGH), Due.LOW);
        DUE.is("hisses from below", x.act(1, 0, -1), 0);
        DUE.is("lands", x.act(1, 1, Due.HIGH), 0);
        DUE.is("lands, half", x.act(0, 1, 1 << 30), Due.LOW);
        DUE.is("signs", x.act(1, 2, Due.LOW), 2 ^ Due.HIGH - 1);
        DUE.is("the least, turned round", x.act(2, 2, Due.HIGH), -((Due.HIGH * 2) ^ (Due.HIGH - 3)));
        for (int move : new int[] {Due.LOW, -1, 3, Due.HIGH}) {
            DUE.is("move " + move, x.act(1, move, 7), 0);
            DUE.is("nothing ran", x.status(8), 0);
        }
    }

    private static void trace() {
        DUE.sentence("THE TRACE: the numbers of the bodies that ran in the latest act(), "
            + "in the order in which they began; the first 20 are kept.");
        int[] ran = {4, 6, 7, 7, 8, 5, 10};
        for (int kind = 0; kind < 7; kind++) {
            TubesOfCourt x = Due.withDesks(1);
            x.capsule(kind, 1, 1, 0);
            DUE.is("ahead of the first", x.trace(0), -1);
            x.act(0, 2, 1);
            DUE.is("bodies of kind " + kind, x.status(8), ran[kind]);
            for (int i = 0; i < ran[kind]; i++) {
                DUE.holds("the " + i + "-th body", x.trace(i) >= 10);
            }
            for (int i : new int[] {ran[kind], 19, 20, 21, Due.HIGH, -1, Due.LOW}) {
                DUE.is("no body " + i, x.trace(i), -1);
            }
            x.act(0, 0, 1);
            DUE.holds("the latest alone", x.status(8) < ran[kind]);
            DUE.is("no body of the one ahead", x.trace(x.status(8)), -1);
        }
    }

    private static void draws() {
        DUE.sentence("SEED (1 at first) becomes SEED times 1103515245, and 12345 (an int, wrapping)");
        for (int seed : new int[] {1, 0, -1, Due.HIGH, Due.LOW, 123456789, -987654321}) {
            TubesOfCourt x = Due.withDesks(1);
            x.capsule(0, 0, 1, 0);
            DUE.is("at first", x.status(7), 1);
            x.seed(seed);
            long due = seed;
            for (int leg = 1; leg <= 5; leg++) {
                x.months(1);
                for (int draw = 0; draw < 3; draw++) {
                    due = (int) (due * 1103515245L + 12345L);
                }
                DUE.is("leg " + leg + " from " + seed, x.status(7), due);
            }
        }
    }

    private static void drawsBelow() {
        DUE.sentence("its upper 16 bits, no sign, modulo n");
        boolean below = false;
        for (int seed = -6; seed <= 6; seed++) {
            TubesOfCourt x = Due.withDesks(7);
            for (int d = 1; d < 7; d++) {
                x.tube(0, d, d, 1);
            }
            for (int c = 0; c < 5; c++) {
                x.capsule(5, 0, 1, 0);
            }
            x.seed(seed * 99991);
            long drawn = seed * 99991L;
            int[] draws = new int[3];
            int[] modulo = {5, 7, 2};
            for (int draw = 0; draw < 3; draw++) {
                drawn = (int) (drawn * 1103515245L + 12345L);
                below |= drawn < 0;
                draws[draw] = (int) (Math.floorMod(drawn, 1L << 32) / 65536 % modulo[draw]);
            }
            DUE.is("minutes", x.months(1), draws[1]);
            DUE.is("the capsule", x.capsuleOf(draws[0], 3), draws[1]);
            DUE.is("signed", x.signed(draws[1]), draws[2]);
        }
        DUE.holds("some seeds are below 0", below);
    }
}
