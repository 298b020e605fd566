/** Promises 2 to 8: row, set, copy, element, show, holds, says. */
public final class ShelvesTest {
    private static final Due DUE = new Due();

    public static void main(String[] args) {
        row();
        set();
        copy();
        element();
        show();
        says();
        DUE.end();
    }

    private static void row() {
        TubesOfCourt x = new TubesOfCourt();
        DUE.is("row of none", x.row(0, 0, 0), 1);
        DUE.is("holds bytes", x.holds(0), 100);
        DUE.is("row of 160", x.row(7, 3, 160), 1);
        DUE.is("holds longs", x.holds(7), 103);
        DUE.is("shelf -1", x.row(-1, 0, 1), -1);
        DUE.is("shelf 8", x.row(8, 4, -1), -1);
        DUE.is("below ahead of sort", x.row(0, 4, -1), -4);
        DUE.is("sort 4 ahead of room", x.row(0, 4, 161), -6);
        DUE.is("sort -1", x.row(0, -1, 1), -6);
        DUE.is("room", x.row(0, 0, 161), -7);
        DUE.is("still empty", x.set(0, 0, 1), -5);
        x.set(7, 159, 5);
        x.row(7, 3, 160);
        DUE.is("a new row holds 0", x.element(7, 159), 0);
    }

    private static void set() {
        TubesOfCourt x = Due.withDesks(1);
        x.capsule(0, 0, 1, 0);
        x.show(4, 0);
        long[] kept = {0x78L, 0x5678L, 0x12345678L, 0x9876543212345678L};
        long[] below = {-128L, -32768L, -2147483648L, Long.MIN_VALUE};
        long[] edge = {0x80L, 0x8000L, 0x80000000L, Long.MIN_VALUE};
        for (int sort = 0; sort < 4; sort++) {
            x.row(sort, sort, 2);
            DUE.is("set", x.set(sort, 0, 0x9876543212345678L), 1);
            DUE.is("lowest bits", x.element(sort, 0), kept[sort]);
            x.set(sort, 1, edge[sort]);
            DUE.is("signed", x.element(sort, 1), below[sort]);
            DUE.is("past the end", x.set(sort, 2, 1), -5);
            DUE.is("ahead of the start", x.set(sort, -1, 1), -5);
        }
        DUE.is("no shelf", x.set(8, 0, 1), -1);
        DUE.is("a capsule", x.set(4, -1, 1), -2);
        DUE.is("nothing", x.set(5, -1, 1), -3);
    }

    private static void copy() {
        TubesOfCourt x = Due.withDesks(1);
        x.capsule(0, 0, 1, 0);
        x.show(4, 0);
        Due.putRow(x, 0, 2, 1, 2, 3, 4);
        Due.putRow(x, 1, 2, 5, 6, 7);
        Due.putRow(x, 2, 1, 8, 9);
        DUE.is("copy", x.copy(0, 1, 1, 0, 3), 1);
        DUE.is("first", x.element(1, 0), 2);
        DUE.is("last", x.element(1, 2), 4);
        DUE.is("upon itself, on", x.copy(0, 0, 0, 1, 3), 1);
        DUE.is("as they were", x.element(0, 1) * 100 + x.element(0, 2) * 10 + x.element(0, 3), 123);
        DUE.is("upon itself, back", x.copy(0, 0, 1, 0, 3), 1);
        DUE.is("as they were", x.element(0, 0) * 100 + x.element(0, 1) * 10 + x.element(0, 2), 123);
        DUE.is("none at the end", x.copy(0, 1, 4, 3, 0), 1);
        DUE.is("none past the end", x.copy(0, 1, 5, 3, 0), -5);
        DUE.is("none past the other end", x.copy(0, 1, 4, 4, 0), -5);
        DUE.is("i below", x.copy(0, 1, -1, 0, 1), -5);
        DUE.is("j below", x.copy(0, 1, 0, -1, 1), -5);
        DUE.is("end not there", x.copy(0, 1, 2, 0, 3), -5);
        DUE.is("other end not there", x.copy(0, 1, 0, 1, 3), -5);
        DUE.is("ends that wrap", x.copy(0, 1, 2147483647, 0, 2147483647), -5);
        DUE.is("n below", x.copy(0, 1, -1, -1, -1), -4);
        DUE.is("two sorts", x.copy(0, 2, 0, 0, -1), -2);
        DUE.is("a capsule from", x.copy(4, 5, 0, 0, 1), -2);
        DUE.is("a capsule to", x.copy(5, 4, 0, 0, 1), -2);
        DUE.is("nothing from", x.copy(5, 0, 0, 0, -1), -3);
        DUE.is("nothing to", x.copy(0, 5, 0, 0, -1), -3);
        DUE.is("no shelf from", x.copy(8, 4, 0, 0, 1), -1);
        DUE.is("no shelf to", x.copy(5, -1, 0, 0, 1), -1);
        DUE.is("untouched", x.element(2, 0), 8);
    }

    private static void element() {
        TubesOfCourt x = new TubesOfCourt();
        Due.putRow(x, 0, 0, 7);
        DUE.is("element", x.element(0, 0), 7);
        DUE.is("past the end", x.element(0, 1), 0);
        DUE.is("below", x.element(0, -1), 0);
        DUE.is("nothing", x.element(1, 0), 0);
        DUE.is("no shelf", x.element(8, 0), 0);
        for (int what = 11; what <= 17; what++) {
            DUE.is("nothing is refused", x.status(what), 0);
        }
        x.desk();
        x.capsule(0, 0, 1, 0);
        x.show(0, 0);
        DUE.is("a capsule has no element", x.element(0, 0), 0);
    }

    private static void show() {
        TubesOfCourt x = Due.withDesks(1);
        DUE.is("no capsule", x.show(0, 0), -1);
        x.capsule(0, 0, 1, 0);
        x.capsule(1, 0, 1, 0);
        DUE.is("show", x.show(0, 1), 1);
        DUE.is("holds", x.holds(0), 1);
        DUE.is("capsule -2", x.show(0, -2), -1);
        DUE.is("no shelf", x.show(8, 0), -1);
        DUE.is("no shelf, nothing", x.show(-1, -1), -1);
        DUE.is("holds yet", x.holds(0), 1);
        DUE.is("nothing", x.show(0, -1), 0);
        DUE.is("holds nothing", x.holds(0), -1);
        DUE.is("holds, no shelf", x.holds(8), -1);
        DUE.is("holds, no shelf", x.holds(-1), -1);
        x.row(0, 1, 1);
        DUE.is("over a row", x.show(0, 0), 1);
        DUE.is("holds a capsule", x.holds(0), 0);
        x.row(0, 2, 1);
        DUE.is("a row over it", x.holds(0), 102);
        DUE.is("refused", x.status(11), 4);
    }

    private static void says() {
        int[] above = {-1, 0, 1, 0, 3, 0, 2};
        for (int kind = 0; kind < 7; kind++) {
            TubesOfCourt x = Due.withDesks(4);
            x.tube(0, 1, 1, 1);
            x.tube(0, 1, 1, 1);
            x.capsule(kind, 7, 9, 3);
            x.show(0, 0);
            int[] due = {3, 9, 9, 7, 7, 2, 9};
            for (int asked = 0; asked < 7; asked++) {
                boolean under = false;
                for (int k = kind; k >= 0; k = above[k]) {
                    under |= k == asked;
                }
                DUE.is("says " + kind + " as " + asked, x.says(0, asked), under ? due[asked] : -2);
            }
            DUE.is("kind -1", x.says(0, -1), -1);
            DUE.is("kind 7", x.says(1, 7), -1);
            DUE.is("no shelf", x.says(8, 0), -1);
            DUE.is("nothing", x.says(1, 0), -3);
            x.row(1, 0, 1);
            DUE.is("a row", x.says(1, 0), -2);
        }
    }
}
