/** The second half of "3. WHAT COMES OF IT", from STUCK to MONTHS: each sentence that names a boundary. */
public final class AskedBoundsTest {
    private static final Due DUE = new Due();
    private static final int QUEEN = 4;
    private static final int CAT = 5;

    public static void main(String[] args) {
        twoEnds();
        goesOn();
        knocks();
        fits();
        notCome();
        listenUntold();
        listenEight();
        listenWorst();
        listenNone();
        enough();
        tree();
        treeBits();
        treeNone();
        seat();
        latest();
        legs();
        wrong();
        behind();
        inTruth();
        months();
        nothingIsChanged();
        DUE.end();
    }

    private static void twoEnds() {
        DUE.sentence("STUCK: a knock in a TUBE is heard at its two ends at once");
        TubesOfCourt x = Due.line(3, 9, 1);
        Due.putRow(x, 0, 1, 0, 7, 1, 7);
        DUE.is("its own ends", x.stuck(0, 2), 1);
        x.shut(0, true);
        DUE.is("shut, too", x.stuck(0, 2), 1);
        Due.putRow(x, 0, 1, 1, 7, 2, 7);
        DUE.is("the next", x.stuck(0, 2), 2);
        Due.putRow(x, 0, 1, 0, 7, 1, 8);
        DUE.is("not a minute behind", x.stuck(0, 2), 0);
    }

    private static void goesOn() {
        DUE.sentence("from there goes on through open TUBES, either way, one minute for each of LENGTH.");
        TubesOfCourt x = Due.line(4, 9, 1);
        x.tube(3, 2, 1, 1);
        Due.putRow(x, 0, 1, 1, 7, 2, 16);
        DUE.is("nine for nine", x.stuck(0, 2), 1);
        Due.putRow(x, 0, 1, 1, 7, 3, 17);
        DUE.is("the shorter of two", x.stuck(0, 2), 1);
        Due.putRow(x, 0, 1, 2, 9, 1, 18);
        DUE.is("back", x.stuck(0, 2), 12);
        x.shut(1, true);
        DUE.is("not through what is shut", x.stuck(0, 2), 0);
        x.shut(1, false);
        x.shut(3, true);
        Due.putRow(x, 0, 1, 1, 7, 3, 25);
        DUE.is("the longer one, if the shorter is shut", x.stuck(0, 2), 1);
        TubesOfCourt full = Due.withDesks(3);
        for (int t = 0; t < 15; t++) {
            full.tube(0, 1, 9, 1);
        }
        full.tube(2, 1, 3, 1);
        Due.putRow(full, 0, 1, 0, 5, 2, 8);
        DUE.is("on through the sixteenth", full.stuck(0, 2), 32767);
        Due.putRow(full, 0, 1, 0, 14, 2, 5);
        DUE.is("from the sixteenth", full.stuck(0, 2), 1 << 15);
        Due.putRow(full, 0, 1, 1, 5);
        DUE.is("sixteen, one of which is told by 0", full.listen(0, 1), 0);
    }

    private static void knocks() {
        DUE.sentence("KNOCKS: a ROW of twos (a DESK, the minute at which it was heard, 0 to 999)");
        for (int minute : new int[] {Due.LOW, -1, 0, 1, 998, 999, 1000, Due.HIGH}) {
            TubesOfCourt x = Due.line(2, 1, 1);
            Due.putRow(x, 0, 2, 1, minute);
            boolean may = minute >= 0 && minute <= 999;
            DUE.is("minute " + minute, x.stuck(0, 1), may ? 1 : -6);
            Due.putRow(x, 0, 2, 1, 5, 1, minute);
            DUE.is("the second minute " + minute, x.stuck(0, 2), may ? 0 : -6);
            DUE.is("not looked at", x.stuck(0, 1), 1);
        }
        for (int desk : new int[] {Due.LOW, -1, 0, 1, 2, 8, Due.HIGH}) {
            TubesOfCourt x = Due.line(2, 1, 1);
            Due.putRow(x, 0, 2, desk, 5);
            boolean may = desk >= 0 && desk <= 1;
            DUE.is("desk " + desk, x.stuck(0, 1), may ? 1 : -6);
            Due.putRow(x, 0, 2, 1, 5, desk, 5);
            DUE.is("the second desk " + desk, x.stuck(0, 2), may ? 1 : -6);
            DUE.is("not looked at", x.stuck(0, 1), 1);
        }
    }

    private static void fits() {
        DUE.sentence("TUBES (bits), SHUT or not, that FIT: for which a minute is found "
            + "from which all would be heard just then");
        TubesOfCourt x = Due.withDesks(2);
        for (int t = 0; t < 16; t++) {
            x.tube(0, 1, 1 + t % 9, 1);
            x.shut(t, t % 2 == 1);
        }
        Due.putRow(x, 0, 1, 0, 7, 1, 7, 1, 8);
        DUE.is("all sixteen", x.stuck(0, 2), 65535);
        DUE.is("none if one is not heard just then", x.stuck(0, 3), 0);
        x.set(0, 5, 6);
        DUE.is("nor a minute ahead", x.stuck(0, 3), 0);
        TubesOfCourt none = Due.withDesks(1);
        Due.putRow(none, 0, 1, 0, 7);
        DUE.is("no tubes", none.stuck(0, 1), 0);
    }

    private static void notCome() {
        DUE.sentence("(a DESK that it doesn't come to doesn't FIT)");
        TubesOfCourt x = Due.line(4, 1, 1);
        x.shut(1, true);
        Due.putRow(x, 0, 1, 0, 7, 3, 7);
        DUE.is("from the one side", x.stuck(0, 1), 3);
        DUE.is("both sides: what is shut between them", x.stuck(0, 2), 2);
        x.desk();
        Due.putRow(x, 0, 1, 4, 7);
        DUE.is("joined with none", x.stuck(0, 1), 0);
    }

    private static void listenUntold() {
        DUE.sentence("LISTEN: the DESK, not told, which, of those that FIT, "
            + "by how long behind the first told DESK it is heard there (or never)");
        TubesOfCourt x = Due.line(4, 1, 1);
        Due.putRow(x, 0, 1, 1, 5, 0, 5, 3, 7);
        // From 0, 1, 2 it comes to 0 by 0, 1, 1 behind desk 1, to 2 by 1, 0, -1, to 3 by 2, 1, -1.
        DUE.is("2 is the first that parts all", x.listen(0, 1), 2);
        x.set(0, 0, 2);
        DUE.is("behind desk 2 it is 0", x.listen(0, 1), 0);
        x.set(0, 0, 0);
        DUE.is("behind desk 0 it is 2", x.listen(0, 1), 2);
        TubesOfCourt never = Due.withDesks(4);
        never.tube(1, 2, 1, 1);
        never.tube(2, 3, 1, 1);
        Due.putRow(never, 0, 1, 1, 5);
        DUE.is("never is one with never: desk 0 parts none", never.listen(0, 1), 2);
        TubesOfCourt shut = Due.withDesks(4);
        for (int t = 0; t < 3; t++) {
            shut.tube(1, t == 2 ? 3 : 2, 1, 1);
            shut.shut(t, true);
        }
        Due.putRow(shut, 0, 1, 1, 5);
        DUE.is("never is another than at once", shut.listen(0, 1), 2);
        Due.putRow(shut, 0, 1, 1, 5, 2, 5);
        DUE.is("2 is told: 0 and 3 are never heard from either", shut.listen(0, 2), 0);
    }

    /** Two tubes that are alike, and how many of eight desks are told. */
    private static void listenEight() {
        DUE.sentence("LISTEN: the DESK, not told");
        TubesOfCourt x = Due.line(8, 1, 1);
        x.tube(0, 1, 1, 1);
        x.row(0, 1, 16);
        for (int d = 0; d < 8; d++) {
            x.set(0, 2 * d, d);
            x.set(0, 2 * d + 1, 100 + Math.max(1, d));
        }
        for (int n = 2; n < 8; n++) {
            DUE.is("told up to " + n, x.listen(0, n), n);
        }
        DUE.is("all are told", x.listen(0, 8), -1);
        x.set(0, 14, 6);
        x.set(0, 15, 106);
        DUE.is("one of eight is told twice", x.listen(0, 8), 7);
    }

    private static void listenWorst() {
        DUE.sentence("leaves fewest in the worst case, of several the first");
        TubesOfCourt x = Due.withDesks(4);
        x.tube(0, 1, 1, 1);
        x.tube(0, 2, 1, 1);
        x.tube(0, 2, 1, 1);
        x.tube(0, 3, 1, 1);
        Due.putRow(x, 0, 1, 0, 5);
        // Each of 1 and 3 parts one from three, 2 parts two from two.
        DUE.is("two in the worst case", x.listen(0, 1), 2);
        x.tube(0, 3, 1, 1);
        DUE.is("2 and 3 leave three, of five: the first", x.listen(0, 1), 2);
        x.tube(0, 3, 1, 1);
        DUE.is("3 leaves three, of six", x.listen(0, 1), 3);
        TubesOfCourt alike = Due.withDesks(4);
        alike.tube(0, 1, 1, 1);
        alike.tube(0, 1, 1, 1);
        Due.putRow(alike, 0, 1, 0, 5);
        DUE.is("none of them parts what is alike: the first", alike.listen(0, 1), 1);
        TubesOfCourt sixteen = Due.withDesks(3);
        for (int t = 0; t < 16; t++) {
            sixteen.tube(0, 1, 1, 1);
        }
        Due.putRow(sixteen, 0, 1, 0, 5);
        DUE.is("sixteen that are alike", sixteen.listen(0, 1), 1);
        TubesOfCourt halves = Due.withDesks(4);
        for (int t = 0; t < 16; t++) {
            halves.tube(0, t < 8 ? 2 : t < 15 ? 3 : 1, 1, 1);
        }
        Due.putRow(halves, 0, 1, 0, 5);
        // 1 leaves fifteen, 2 eight, 3 nine.
        DUE.is("of sixteen fewest are left by 2", halves.listen(0, 1), 2);
        TubesOfCourt nine = Due.withDesks(4);
        for (int t = 0; t < 16; t++) {
            nine.tube(0, t < 7 ? 1 : t > 7 ? 2 : 3, 1, 1);
        }
        Due.putRow(nine, 0, 1, 0, 5);
        DUE.is("1 leaves nine, 2 eight", nine.listen(0, 1), 2);
    }

    private static void listenNone() {
        DUE.sentence("NONE: fewer than two FIT, or none is left.");
        TubesOfCourt x = Due.line(3, 1, 1);
        Due.putRow(x, 0, 1, 0, 5, 1, 5, 2, 5);
        DUE.is("two fit", x.listen(0, 1), 1);
        DUE.is("one fits", x.listen(0, 2), -1);
        DUE.is("none fits, none is left", x.listen(0, 3), -1);
        TubesOfCourt two = Due.line(2, 1, 1);
        two.tube(1, 0, 3, 1);
        Due.putRow(two, 0, 1, 0, 5, 1, 5);
        DUE.is("two fit, one desk is left", two.listen(0, 1), 1);
        DUE.is("two fit, none is left", two.listen(0, 2), -1);
        TubesOfCourt none = Due.withDesks(2);
        Due.putRow(none, 0, 1, 0, 5);
        DUE.is("no tubes", none.listen(0, 1), -1);
    }

    private static void enough() {
        DUE.sentence("ENOUGH for one to a DESK by m minutes: the least PRESSURE (1 to 9) "
            + "by which his WAY takes m at most; NONE.");
        TubesOfCourt x = Due.line(3, 9, 9);
        x.capsule(0, 0, 9, 0);
        x.desk();
        int[] least = {0, 162, 82, 54, 42, 34, 28, 24, 22, 18};
        for (int p = 1; p <= 9; p++) {
            DUE.is("just by " + p, x.enough(0, 2, least[p]), p);
            DUE.is("a minute less", x.enough(0, 2, least[p] - 1), p == 9 ? -1 : p + 1);
        }
        DUE.is("500", x.enough(0, 2, 500), 1);
        DUE.is("501", x.enough(0, 2, 501), -16);
        DUE.is("0", x.enough(0, 2, 0), -1);
        DUE.is("-1", x.enough(0, 2, -1), -16);
        DUE.is("far above", x.enough(0, 2, Due.HIGH), -16);
        DUE.is("far below", x.enough(0, 2, Due.LOW), -16);
        DUE.is("no way", x.enough(0, 3, 500), -1);
        x.capsule(2, 0, 9, 0);
        DUE.is("a rival has it least by 1", x.enough(1, 2, 16), 1);
        DUE.is("and less never", x.enough(1, 2, 15), -1);
        TubesOfCourt longest = Due.line(8, 9, 9);
        longest.capsule(0, 0, 9, 0);
        DUE.is("567 by 1 are more than 500", longest.enough(0, 7, 500), 2);
    }

    private static void tree() {
        DUE.sentence("TREE: the least sum of LENGTHS of TUBES (SHUT or not) that join all DESKS: "
            + "how much (of one DESK, or none, 0)");
        TubesOfCourt x = new TubesOfCourt();
        DUE.is("no desk", x.tree(0), 0);
        DUE.is("no desk, which", x.tree(1), 0);
        x.desk();
        DUE.is("one desk", x.tree(0), 0);
        DUE.is("one desk, which", x.tree(1), 0);
        for (int d = 1; d < 8; d++) {
            x.desk();
            x.tube(d - 1, d, 9, 1);
            x.shut(d - 1, true);
            DUE.is("shut ones", x.tree(0), 9 * d);
        }
        for (int d = 1; d < 8; d++) {
            x.tube(d, d - 1, d, 1);
        }
        DUE.is("the least", x.tree(0), 28);
        DUE.is("which", x.tree(1), 127 << 7);
        x.tube(0, 7, 1, 1);
        DUE.is("round the circle", x.tree(0), 22);
        DUE.is("which", x.tree(1), 63 << 7 | 1 << 14);
    }

    private static void treeBits() {
        DUE.sentence("which (bits): of several the least as bits");
        TubesOfCourt x = Due.withDesks(2);
        for (int t = 0; t < 16; t++) {
            x.tube(t % 2, 1 - t % 2, t == 0 ? 3 : 2, 1);
        }
        DUE.is("of fifteen the first", x.tree(1), 2);
        TubesOfCourt y = Due.withDesks(3);
        y.tube(0, 1, 2, 1);
        y.tube(1, 2, 2, 1);
        y.tube(2, 0, 2, 1);
        DUE.is("the last is left out", y.tree(1), 3);
        y.tube(2, 0, 1, 1);
        DUE.is("the uppermost is needed", y.tree(1), 9);
        TubesOfCourt last = Due.withDesks(2);
        for (int t = 0; t < 16; t++) {
            last.tube(0, 1, t == 15 ? 8 : 9, 1);
        }
        DUE.is("the sixteenth", last.tree(1), 1 << 15);
    }

    private static void treeNone() {
        DUE.sentence("NONE: they can't be joined.");
        TubesOfCourt x = Due.withDesks(2);
        DUE.is("no tubes", x.tree(0), -1);
        DUE.is("no tubes, which", x.tree(1), -1);
        x.tube(0, 1, 1, 1);
        DUE.is("joined", x.tree(0), 1);
        x.desk();
        DUE.is("one apart", x.tree(0), -1);
        DUE.is("one apart, which", x.tree(1), -1);
        x.desk();
        x.tube(2, 3, 1, 1);
        DUE.is("two and two", x.tree(0), -1);
        x.tube(3, 1, 9, 1);
        DUE.is("joined again", x.tree(0), 11);
    }

    private static void seat() {
        DUE.sentence("SEAT for one: the DESK to which, from which on, his longest WAY to any other is least "
            + "(if he were AT it; a DESK he has no WAY to counts 9999), of several the first.");
        TubesOfCourt x = Due.line(4, 2, 9);
        x.capsule(CAT, 0, 1, 3);
        DUE.is("of 1 and 2 the first, though he is at 3", x.seat(0, 0), 1);
        x.tube(2, 0, 1, 9);
        DUE.is("the other one", x.seat(0, 0), 2);
        DUE.is("its longest", x.seat(0, 1), 2);
        x.capsule(QUEEN, 0, 1, 3);
        DUE.is("a queen, of two the first", x.seat(1, 0), 1);
        TubesOfCourt y = Due.withDesks(3);
        y.tube(2, 1, 1, 9);
        y.tube(2, 0, 1, 9);
        y.capsule(QUEEN, 0, 1, 0);
        DUE.is("the last, from which alone she comes to all", y.seat(0, 0), 2);
        y.desk();
        DUE.is("all count 9999", y.seat(0, 0), 0);
        DUE.is("which is the longest", y.seat(0, 1), 9999);
    }

    private static void latest() {
        DUE.sentence("LATEST: that longest.");
        TubesOfCourt x = Due.withDesks(1);
        x.capsule(3, 9, 9, 0);
        x.ask(1);
        DUE.is("alone", x.seat(0, 1), 0);
        for (int d = 1; d < 8; d++) {
            x.desk();
            DUE.is("a desk apart", x.seat(0, 1), 9999);
            x.tube(d - 1, d, 9, 9);
            DUE.is("a line of " + d, x.seat(0, 1), 90 * ((d + 1) / 2));
        }
    }

    private static int judged(TubesOfCourt x, long... legs) {
        Due.putRow(x, 0, 3, legs);
        return x.judge(0, legs.length);
    }

    private static void legs() {
        DUE.sentence("A told DAY: a ROW of legs, each 100 times the CAPSULE, 10 times the DESK he goes to, "
            + "by his WAY, and 1 if he signs there");
        TubesOfCourt x = Due.line(8, 1, 9);
        for (int c = 0; c < 5; c++) {
            x.capsule(CAT, 0, 1, 0);
        }
        DUE.is("the least", judged(x, 0), -1);
        DUE.is("the greatest", judged(x, 471), -1);
        Due.putRow(x, 0, 1, 471, 31, 0);
        DUE.is("minutes", x.behind(0, 3, 0), 13);
        DUE.is("done", x.done(0, 2), 10);
        DUE.is("the fifth at the eighth", x.capsuleOf(4, 3), 7);
        DUE.is("signed", x.signed(7), 1);
        DUE.is("the first at the fourth", x.capsuleOf(0, 3), 3);
        DUE.is("signed", x.signed(3), 1);
        DUE.is("nobody else", x.status(5), 2);
    }

    private static void wrong() {
        DUE.sentence("WRONG: the first that may not be (none such, no WAY, other last digits); NONE.");
        TubesOfCourt x = Due.line(3, 1, 9);
        x.desk();
        x.capsule(QUEEN, 0, 1, 0);
        x.capsule(CAT, 0, 1, 0);
        DUE.is("none", judged(x), -1);
        DUE.is("none of two", judged(x, 21, 121), -1);
        long[] wrongs = {200, 201, 900, 1000, 1100, 40, 41, 90, 140, 30, 131, 2, 3, 9, 102, 119, -1, -10, -100,
            -101, Due.LOW, Due.HIGH, 1L << 31};
        for (long leg : wrongs) {
            DUE.is("first " + leg, judged(x, leg, 0), 0);
            DUE.is("second " + leg, judged(x, 10, leg, -1), 1);
            Due.putRow(x, 0, 3, 0, leg);
            DUE.is("not looked at " + leg, x.judge(0, 1), -1);
        }
        DUE.is("no way back", judged(x, 20, 110, 100, 10), 3);
        long[] full = new long[40];
        DUE.is("all forty", judged(x, full), -1);
        full[39] = 5;
        DUE.is("the fortieth", judged(x, full), 39);
    }

    private static void behind() {
        DUE.sentence("BEHIND it: minutes of all together, how often was signed, where the CAPSULE 0 is.");
        TubesOfCourt x = Due.line(3, 9, 9);
        x.capsule(CAT, 0, 1, 1);
        x.capsule(CAT, 0, 1, 1);
        Due.putRow(x, 0, 1, 1, 111, 20, 100, 101);
        int[][] due = {{0, 0, 1}, {0, 0, 1}, {0, 1, 1}, {9, 1, 2}, {18, 1, 2}, {18, 2, 2}};
        x.set(0, 0, 10);
        for (int n = 0; n <= 5; n++) {
            for (int what = 0; what < 3; what++) {
                DUE.is("behind " + n + ", " + what, x.behind(0, n, what), due[n][what]);
            }
        }
        Due.putRow(x, 1, 1, new long[40]);
        for (int i = 0; i < 40; i++) {
            x.set(1, i, i % 2 == 0 ? 1 : 21);
        }
        DUE.is("forty legs, minutes", x.behind(1, 40, 0), 9 + 39 * 18);
        DUE.is("forty legs, signed", x.behind(1, 40, 1), 40);
        DUE.is("forty legs, where", x.behind(1, 40, 2), 2);
    }

    private static void inTruth() {
        DUE.sentence("IN TRUTH: legs; MINUTES go by; SIGNED of that DESK is 1 more.");
        TubesOfCourt x = Due.line(3, 9, 9);
        x.capsule(CAT, 0, 1, 0);
        DUE.is("minutes of the leg", x.send(0, 2, true), 18);
        DUE.is("1 more", x.signed(2), 1);
        DUE.is("not of that he left", x.signed(0), 0);
        DUE.is("nor of that he passed", x.signed(1), 0);
        DUE.is("one that isn't signed", x.send(0, 1, false), 9);
        DUE.is("is not", x.signed(1), 0);
        DUE.is("all minutes", x.status(4), 27);
        Due.putRow(x, 0, 0, 10, 11, 11);
        DUE.is("legs of 0 minutes", x.done(0, 3), 27);
        DUE.is("2 more", x.signed(1), 2);
        Due.putRow(x, 0, 0, 1, 30);
        DUE.is("a wrong day", x.done(0, 2), -6);
        DUE.is("nothing of it: minutes", x.status(4), 27);
        DUE.is("nothing of it: where", x.capsuleOf(0, 3), 1);
        DUE.is("nothing of it: signed", x.signed(0), 0);
    }

    private static void months() {
        DUE.sentence("MONTHS by draws, n legs: a CAPSULE (a DRAW below how many), a DESK (a DRAW below how many); "
            + "if he has a WAY he goes, and signs if a DRAW below 2 is 1 (it comes even if he has none); "
            + "MINUTES then.");
        int none = 0;
        int signed = 0;
        for (int seed = 1; seed <= 8; seed++) {
            TubesOfCourt x = Due.line(3, seed, 9);
            x.desk();
            x.capsule(CAT, 0, 1, 0);
            x.capsule(QUEEN, 2, 5, 1);
            x.capsule(CAT, 0, 1, 3);
            x.seed(seed);
            int minutes = 0;
            int drawn = seed;
            int[] signs = new int[4];
            for (int leg = 0; leg < 12; leg++) {
                int[] draws = new int[3];
                int[] below = {3, 4, 2};
                for (int i = 0; i < 3; i++) {
                    drawn = drawn * 1103515245 + 12345;
                    draws[i] = (drawn >>> 16) % below[i];
                }
                int taken = x.way(draws[0], draws[1], 0);
                none += taken < 0 ? 1 : 0;
                minutes += Math.max(0, taken);
                signs[draws[1]] += taken < 0 ? 0 : draws[2];
                signed += taken < 0 ? 0 : draws[2];
                DUE.is("minutes then", x.months(1), minutes);
                DUE.is("seed, way or none", x.status(7), drawn);
                DUE.is("signed", x.signed(draws[1]), signs[draws[1]]);
            }
        }
        DUE.holds("some have no way", none > 9);
        DUE.holds("some sign", signed > 9);
    }

    private static TubesOfCourt manyTold() {
        TubesOfCourt x = Due.line(4, 2, 9);
        x.capsule(QUEEN, 3, 2, 0);
        x.capsule(6, 3, 2, 1);
        x.shut(2, true);
        x.send(1, 0, true);
        x.act(1, 2, 3);
        Due.putRow(x, 0, 3, 0, 5);
        Due.putRow(x, 1, 1, 11, 121, 111);
        Due.putText(x, 2, "desk;x");
        x.plan(2);
        x.image();
        return x;
    }

    private static String answers(TubesOfCourt x) {
        StringBuilder all = new StringBuilder();
        for (int what = 0; what < 3; what++) {
            all.append(x.way(0, 2, what)).append(' ').append(x.behind(1, 3, what)).append(' ');
        }
        for (int what = 0; what < 2; what++) {
            all.append(x.meet(0, 1, what)).append(' ').append(x.cut(0, 2, what)).append(' ');
            all.append(x.tree(what)).append(' ').append(x.seat(1, what)).append(' ');
        }
        all.append(x.within(0, 9)).append(' ').append(x.within(0, -1)).append(' ');
        all.append(x.round(1, 7, 3, -1)).append(' ').append(x.round(1, 7, 3, 1)).append(' ');
        all.append(x.stuck(0, 1)).append(' ').append(x.listen(0, 1)).append(' ');
        all.append(x.enough(0, 2, 9)).append(' ').append(x.judge(1, 3)).append(' ').append(x.time(0, 0));
        return all.toString();
    }

    private static void nothingIsChanged() {
        DUE.sentence("3. WHAT COMES OF IT (nothing is changed)");
        TubesOfCourt x = manyTold();
        String ahead = Due.stateOf(x);
        String first = answers(x);
        DUE.holds("the same answers again", answers(x).equals(first));
        DUE.holds("all is as it was", Due.stateOf(x).equals(ahead));
        DUE.is("the fault", x.fault(), 5);
        DUE.is("the trace", x.trace(1), 71);
        x.restore();
        DUE.holds("the image is as it was", Due.stateOf(x).equals(ahead));
        DUE.is("minutes", x.status(4), manyTold().status(4));
        for (int what = 11; what <= 17; what++) {
            DUE.is("refused " + what, x.status(what), what == 16 ? 1 : 0);
        }
    }
}
