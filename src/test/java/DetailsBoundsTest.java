/** Both paragraphs "Details.": each of their sentences. */
public final class DetailsBoundsTest {
    private static final Due DUE = new Due();
    private static final int KING = 1;
    private static final int QUEEN = 4;
    private static final int CAT = 5;
    private static final int DENTED = 6;

    public static void main(String[] args) {
        queen();
        rounded();
        first();
        stayAtTheLast();
        meetLooks();
        cutOfNone();
        keepAlone();
        toldTwice();
        listenFirst();
        enoughHere();
        aloneTree();
        legOfNone();
        zerosAhead();
        longsByInts();
        saysByKind();
        goesWithAnother();
        roomOfWords();
        calls();
        DUE.end();
    }

    private static void queen() {
        DUE.sentence("A QUEEN goes only from FROM to TO, and as any other there.");
        TubesOfCourt x = Due.line(2, 1, 5);
        x.capsule(QUEEN, 0, 5, 0);
        x.capsule(QUEEN, 0, 6, 0);
        x.capsule(QUEEN, 0, 5, 1);
        DUE.is("down", x.way(0, 1, 2), 1);
        DUE.is("too narrow", x.way(1, 1, 2), -1);
        DUE.is("not up", x.way(2, 0, 2), -1);
        x.shut(0, true);
        DUE.is("not through what is shut", x.way(0, 1, 2), -1);
    }

    private static void rounded() {
        DUE.sentence("Minutes are rounded up first, then a KING has 1 less, 1 at least; "
            + "DENTED has 2 more behind that.");
        TubesOfCourt x = Due.withDesks(2);
        x.tube(0, 1, 1, 2);
        x.tube(0, 1, 3, 2);
        x.tube(0, 1, 4, 3);
        x.capsule(KING, 0, 2, 0);
        x.capsule(DENTED, 0, 2, 0);
        DUE.is("2 by 5 is 1, and stays 1", x.time(0, 0), 1);
        DUE.is("6 by 5 is 2, so 1", x.time(0, 1), 1);
        DUE.is("8 by 5 is 2, so 1", x.time(0, 2), 1);
        DUE.is("1 at least, and 2", x.time(1, 0), 3);
        DUE.is("1, and 2", x.time(1, 1), 3);
        DUE.is("another bore", x.time(1, 2), 1);
        x.ask(9);
        DUE.is("2 by 1, 1 less, and 2", x.time(1, 0), 3);
        DUE.is("6 by 1, 1 less, and 2", x.time(1, 1), 7);
    }

    private static void first() {
        DUE.sentence("FIRST is by numbers, of all with which a WAY of the least minutes begins; STEPS are of any WAY.");
        TubesOfCourt x = Due.withDesks(5);
        x.tube(0, 4, 5, 9);
        x.tube(0, 3, 1, 9);
        x.tube(0, 1, 1, 9);
        x.tube(1, 2, 1, 9);
        x.tube(2, 4, 1, 9);
        x.tube(4, 3, 2, 9);
        x.capsule(CAT, 0, 1, 0);
        DUE.is("three minutes", x.way(0, 4, 0), 3);
        DUE.is("by 1 or by 2: 1", x.way(0, 4, 1), 1);
        DUE.is("one step, of five minutes", x.way(0, 4, 2), 1);
        x.tube(0, 4, 3, 9);
        DUE.is("by 1, 2 or 6: 1", x.way(0, 4, 1), 1);
        x.tube(0, 4, 2, 9);
        DUE.is("by 7 alone", x.way(0, 4, 1), 7);
    }

    private static void stayAtTheLast() {
        DUE.sentence("ROUND counts the stay at the last DESK, too, and those he passes do not count.");
        TubesOfCourt x = Due.line(4, 1, 9);
        x.capsule(CAT, 0, 1, 0);
        DUE.is("the last alone", x.round(0, 8, 10, -1), 13);
        DUE.is("two of four", x.round(0, 10, 10, -1), 23);
        DUE.is("the nearer first, of which he passes one", x.round(0, 10, 10, 0), 1);
    }

    private static void meetLooks() {
        DUE.sentence("A DESK to which one of both has no WAY is not looked at by MEET.");
        TubesOfCourt x = Due.line(3, 9, 9);
        x.capsule(QUEEN, 0, 1, 1);
        x.capsule(CAT, 0, 1, 0);
        x.capsule(QUEEN, 0, 1, 2);
        x.capsule(KING, 0, 9, 0);
        DUE.is("the queen can't come to 0", x.meet(0, 1, 0), 1);
        DUE.is("nor can the other way about", x.meet(1, 0, 0), 1);
        DUE.is("minutes", x.meet(1, 0, 1), 9);
        DUE.is("two queens", x.meet(0, 2, 0), 2);
        x.shut(1, true);
        DUE.is("two queens, none", x.meet(0, 2, 0), -1);
        DUE.is("two queens, no minutes", x.meet(2, 0, 1), -1);
    }

    private static void cutOfNone() {
        DUE.sentence("CUT is 0 if he has no WAY now, of a CAT, too.");
        TubesOfCourt x = Due.line(2, 1, 2);
        x.desk();
        for (int kind = 0; kind < 5; kind++) {
            x.capsule(kind == 3 ? CAT : kind, 0, 3, 0);
        }
        for (int c = 0; c < 5; c++) {
            DUE.is("joined with none", x.cut(c, 2, 0), 0);
            DUE.is("keep", x.cut(c, 2, 1), 0);
            DUE.is("too narrow", x.cut(c, 1, 0), c == 3 ? -1 : 0);
        }
        DUE.is("how many a cat has now", x.way(3, 1, 0), 1);
    }

    private static void keepAlone() {
        DUE.sentence("KEEP: TUBES which, each SHUT alone, leave him no WAY; so none for a CAT.");
        TubesOfCourt x = Due.line(3, 1, 9);
        x.tube(1, 2, 1, 9);
        x.capsule(0, 0, 1, 0);
        x.capsule(CAT, 0, 1, 0);
        DUE.is("the first, not one of two", x.cut(0, 2, 1), 1);
        DUE.is("a cat", x.cut(1, 2, 1), 0);
        DUE.is("a cat, by one tube", x.cut(1, 1, 1), 0);
        x.shut(2, true);
        DUE.is("both of what is open", x.cut(0, 2, 1), 3);
        DUE.is("a cat yet", x.cut(1, 2, 1), 0);
    }

    private static void toldTwice() {
        DUE.sentence("Of STUCK a DESK may be told twice; minutes from which a knock is heard may be below 0.");
        TubesOfCourt x = Due.line(4, 9, 1);
        Due.putRow(x, 0, 1, 3, 0, 3, 0, 3, 1);
        DUE.is("twice, from 18 and 9 ahead of 0, too", x.stuck(0, 2), 7);
        DUE.is("at two minutes", x.stuck(0, 3), 0);
        Due.putRow(x, 0, 1, 3, 0, 2, 0);
        DUE.is("at 0", x.stuck(0, 2), 4);
        Due.putRow(x, 0, 1, 3, 9, 2, 0);
        DUE.is("from -9 and from 0", x.stuck(0, 2), 3);
        Due.putRow(x, 0, 1, 3, 999, 3, 999, 3, 999, 3, 999, 3, 999, 3, 999, 3, 999, 3, 999);
        DUE.is("eight times", x.stuck(0, 8), 7);
    }

    private static void listenFirst() {
        DUE.sentence("LISTEN compares with the first DESK of the ROW, and is NONE if fewer than two FIT "
            + "or no DESK is untold.");
        TubesOfCourt x = Due.withDesks(4);
        x.tube(3, 2, 1, 1);
        x.tube(3, 2, 2, 1);
        x.tube(3, 1, 1, 1);
        Due.putRow(x, 0, 1, 3, 5, 2, 5);
        DUE.is("two fit, both tell 1 alike: 0 is the first", x.listen(0, 2), 0);
        Due.putRow(x, 0, 1, 3, 5);
        DUE.is("three fit: behind 3 it is 1", x.listen(0, 1), 1);
        Due.putRow(x, 0, 1, 1, 5);
        DUE.is("behind 1, 2 parts as 3 does", x.listen(0, 1), 2);
        Due.putRow(x, 0, 1, 1, 5, 2, 5);
        DUE.is("none fits", x.listen(0, 2), -1);
        Due.putRow(x, 0, 1, 1, 5, 3, 5);
        DUE.is("one fits", x.listen(0, 2), -1);
        TubesOfCourt y = Due.withDesks(2);
        y.tube(0, 1, 1, 1);
        y.tube(0, 1, 1, 1);
        Due.putRow(y, 0, 1, 1, 5, 0, 5, 1, 5);
        DUE.is("one desk untold", y.listen(0, 1), 0);
        DUE.is("no desk untold", y.listen(0, 2), -1);
        DUE.is("no desk untold, one twice", y.listen(0, 3), -1);
    }

    private static void enoughHere() {
        DUE.sentence("ENOUGH to his own DESK is 1.");
        for (int kind = 0; kind < 7; kind++) {
            TubesOfCourt x = Due.line(2, 9, 1);
            x.ask(9);
            x.capsule(kind, 9, 9, 1);
            DUE.is("in 0 minutes", x.enough(0, 1, 0), 1);
            DUE.is("in 500 minutes", x.enough(0, 1, 500), 1);
        }
    }

    private static void aloneTree() {
        DUE.sentence("Without a second DESK the TREE is 0, LATEST 0.");
        TubesOfCourt x = new TubesOfCourt();
        DUE.is("no desk", x.tree(0), 0);
        DUE.is("no desk, which", x.tree(1), 0);
        x.desk();
        x.capsule(CAT, 0, 1, 0);
        DUE.is("one desk", x.tree(0), 0);
        DUE.is("one desk, which", x.tree(1), 0);
        DUE.is("latest", x.seat(0, 1), 0);
        DUE.is("seat", x.seat(0, 0), 0);
        x.desk();
        DUE.is("a second", x.tree(0), -1);
        DUE.is("a second, latest", x.seat(0, 1), 9999);
    }

    private static void legOfNone() {
        DUE.sentence("A leg to the DESK where he is takes 0 minutes.");
        TubesOfCourt x = Due.withDesks(2);
        x.capsule(3, 9, 9, 1);
        Due.putRow(x, 0, 1, 10, 11);
        DUE.is("judged", x.judge(0, 2), -1);
        DUE.is("behind", x.behind(0, 2, 0), 0);
        DUE.is("signs there", x.behind(0, 2, 1), 1);
        DUE.is("done", x.done(0, 2), 0);
        DUE.is("sent", x.send(0, 1, true), 0);
        DUE.is("signed", x.signed(1), 2);
        DUE.is("minutes", x.status(4), 0);
    }

    private static void zerosAhead() {
        DUE.sentence("Numbers of a text may begin with 0.");
        TubesOfCourt x = new TubesOfCourt();
        Due.putText(x, 0, "desk;desk;tube 00 01 05 09;capsule 06 09 09 01;shut 00;open 00;pressure 03");
        DUE.is("plan", x.plan(0), 7);
        int[] tube = {0, 1, 5, 9, 0};
        for (int what = 0; what < tube.length; what++) {
            DUE.is("tubeOf", x.tubeOf(0, what), tube[what]);
        }
        int[] capsule = {6, 9, 9, 1};
        for (int what = 0; what < capsule.length; what++) {
            DUE.is("capsuleOf", x.capsuleOf(0, what), capsule[what]);
        }
        DUE.is("pressure", x.status(3), 3);
    }

    private static void longsByInts() {
        DUE.sentence("Elements of a ROW of longs count by their lowest 32 bits wherever a ROW tells something.");
        TubesOfCourt x = Due.line(3, 1, 9);
        x.capsule(CAT, 0, 1, 0);
        long far = 5L << 32;
        Due.putRow(x, 0, 3, far + 2, 7 - far);
        DUE.is("stuck", x.stuck(0, 1), 3);
        DUE.is("listen", x.listen(0, 1), 0);
        Due.putRow(x, 1, 3, far + 21, -far, far + 2);
        DUE.is("judge", x.judge(1, 2), -1);
        DUE.is("judge, wrong", x.judge(1, 3), 2);
        DUE.is("behind", x.behind(1, 2, 0), 4);
        DUE.is("done", x.done(1, 2), 4);
        Due.putRow(x, 2, 3, far + 'd', 'e' - far, 's', far + 'k');
        DUE.is("plan", x.plan(2), 1);
        DUE.is("the element is whole", x.element(0, 0), far + 2);
        Due.putRow(x, 3, 3, 1L << 31, 5);
        DUE.is("a desk far below 0", x.stuck(3, 1), -6);
    }

    private static void saysByKind() {
        DUE.sentence("What is asked by says() goes by the KIND asked for.");
        TubesOfCourt x = Due.line(4, 1, 1);
        x.capsule(DENTED, 5, 7, 2);
        x.capsule(QUEEN, 5, 7, 2);
        x.capsule(CAT, 5, 7, 2);
        int[][] due = {{2, 7, 7, -2, -2, -2, 7}, {2, -2, -2, 5, 5, -2, -2}, {2, -2, -2, -2, -2, 3, -2}};
        for (int c = 0; c < 3; c++) {
            x.show(0, c);
            for (int kind = 0; kind < 7; kind++) {
                DUE.is("capsule " + c + " as " + kind, x.says(0, kind), due[c][kind]);
            }
        }
        x.tube(3, 0, 1, 1);
        DUE.is("a cat, of four tubes", x.says(0, CAT), 4);
        x.send(2, 0, false);
        DUE.is("a cat as a capsule, gone on", x.says(0, 0), 0);
    }

    private static void goesWithAnother() {
        DUE.sentence("-5 for a number that goes with another one (an i of a k, one that is found by a number) "
            + "is looked at only if that other one may be; else it is -6.");
        TubesOfCourt x = Due.line(3, 1, 9);
        x.capsule(CAT, 0, 1, 0);
        DUE.is("an i of two", x.round(0, 3, 0, 2), -15);
        DUE.is("an i of none", x.round(0, 0, 0, 2), -16);
        DUE.is("an i below NONE of none", x.round(0, 0, 0, -2), -16);
        DUE.is("an i of desks that aren't there", x.round(0, 8, 0, 1), -16);
        DUE.is("of some that are", x.round(0, 15, 0, 4), -16);
        DUE.is("of bits below 0", x.round(0, -1, 0, 32), -16);
        DUE.is("of bits far below", x.round(0, Due.LOW, 0, 1), -16);
        DUE.is("the stay is no such", x.round(0, 3, 61, 2), -15);
        DUE.is("counted as -5", x.status(15), 2);
        DUE.is("counted as -6", x.status(16), 6);
    }

    private static void roomOfWords() {
        DUE.sentence("Whether there is room for a word is asked when its letters stand whole: until then the first "
            + "element that is not as it is the FAULT, or the number of elements.");
        for (String word : new String[] {"desk", "tube", "capsule"}) {
            TubesOfCourt x = full();
            int n = word.length();
            for (int i = 1; i < n; i++) {
                faultAt(x, word.substring(0, i), i);
                faultAt(x, word.substring(0, i) + "~", i);
                faultAt(x, "shut 0;" + word.substring(0, i) + " ", 7 + i);
            }
            faultAt(x, word, 0);
            faultAt(x, word + " 0 1 1 1", 0);
            faultAt(x, word + "~", 0);
            faultAt(x, "shut 0;" + word, 7);
        }
        TubesOfCourt x = full();
        Due.putText(x, 0, "shut 15;open 0;pressure 3");
        DUE.is("words that need no room", x.plan(0), 3);
    }

    private static TubesOfCourt full() {
        TubesOfCourt x = Due.withDesks(8);
        for (int t = 0; t < 16; t++) {
            x.tube(0, 1, 1, 1);
        }
        for (int c = 0; c < 5; c++) {
            x.capsule(0, 0, 1, 0);
        }
        return x;
    }

    private static void faultAt(TubesOfCourt x, String text, int fault) {
        Due.putRow(x, 0, 0, text.chars().asLongStream().toArray());
        DUE.is("plan of '" + text + "'", x.plan(0), -6);
        DUE.is("fault of '" + text + "'", x.fault(), fault);
    }

    private static void calls() {
        DUE.sentence("An object is used for at most 512 calls after it has been made");
        TubesOfCourt x = Due.line(8, 9, 9);
        x.capsule(CAT, 0, 1, 0);
        for (int i = 17; i <= 511; i++) {
            x.round(0, 255, 60, i % 8);
        }
        DUE.is("the 512-th", x.round(0, 255, 60, -1), 543);
    }
}
