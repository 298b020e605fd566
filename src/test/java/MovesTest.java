/** Promises 36 and 37: act and trace, against classes that are written as the document tells them. */
public final class MovesTest {
    private static final Due DUE = new Due();

    private static class Capsule {
        final int m;
        final int k;
        final StringBuilder trace = new StringBuilder();
        int ran = 0;

        Capsule(int m, int k) {
            this.m = m;
            this.k = k;
        }

        void ran(int body) {
            trace.append(body).append(' ');
            ran++;
        }

        int hisses(int x) {
            ran(10);
            return x + m;
        }

        int lands(int x) {
            ran(11);
            return hisses(x) * 2;
        }

        int signs(int x) {
            ran(12);
            return lands(x) ^ hisses(x - k);
        }
    }

    private static class King extends Capsule {
        King(int m, int k) {
            super(m, k);
        }

        @Override
        int hisses(int x) {
            ran(20);
            return super.hisses(x) + k;
        }
    }

    private static class Rival extends King {
        Rival(int m, int k) {
            super(m, k);
        }

        @Override
        int lands(int x) {
            ran(30);
            return super.lands(x) * 3;
        }
    }

    private static class Minister extends Capsule {
        Minister(int m, int k) {
            super(m, k);
        }

        @Override
        int signs(int x) {
            ran(40);
            return -super.signs(x);
        }

        @Override
        int hisses(int x) {
            ran(41);
            return super.hisses(x) - m;
        }
    }

    private static final class Queen extends Minister {
        Queen(int m, int k) {
            super(m, k);
        }

        @Override
        int lands(int x) {
            ran(50);
            return super.lands(x + 1);
        }
    }

    private static final class Cat extends Capsule {
        Cat(int m, int k) {
            super(m, k);
        }

        @Override
        int signs(int x) {
            ran(60);
            return super.signs(x) ^ 5;
        }
    }

    private static final class Dented extends Rival {
        Dented(int m, int k) {
            super(m, k);
        }

        @Override
        int hisses(int x) {
            ran(70);
            return super.hisses(x) * 2;
        }

        @Override
        int lands(int x) {
            ran(71);
            return super.lands(x - k);
        }
    }

    private static Capsule capsuleOfKind(int kind, int m, int k) {
        switch (kind) {
            case 1:
                return new King(m, k);
            case 2:
                return new Rival(m, k);
            case 3:
                return new Minister(m, k);
            case 4:
                return new Queen(m, k);
            case 5:
                return new Cat(m, k);
            case 6:
                return new Dented(m, k);
            default:
                return new Capsule(m, k);
        }
    }

    public static void main(String[] args) {
        DUE.sentence("hisses(..) and so on: the body of the CAPSULE's KIND, or of the next KIND above that has one; "
            + "super: from the KIND above the body's on.");
        int[] xs = {0, 1, -1, 7, 2147483647, -2147483648, 123456789, -1000000007};
        for (int kind = 0; kind < 7; kind++) {
            for (int m = 0; m < 5; m++) {
                TubesOfCourt x = Due.withDesks(1);
                int k = (kind * 3 + m * 2 + 1) % 10;
                for (int c = 0; c < m; c++) {
                    x.capsule(0, 0, 1, 0);
                }
                x.capsule(kind, k, 1, 0);
                for (int move = 0; move < 3; move++) {
                    for (int v : xs) {
                        same(x, kind, m, k, move, v);
                    }
                }
            }
        }
        DUE.promise(36, "0, and no TRACE then: no such CAPSULE, move.");
        none();
        DUE.end();
    }

    private static void same(TubesOfCourt x, int kind, int m, int k, int move, int v) {
        Capsule due = capsuleOfKind(kind, m, k);
        int want = move == 0 ? due.hisses(v) : move == 1 ? due.lands(v) : due.signs(v);
        String call = "kind " + kind + ", number " + m + ", a " + k + ": move " + move + " of " + v;
        DUE.is(call, x.act(m, move, v), want);
        DUE.is(call + ", bodies", x.status(8), due.ran);
        StringBuilder trace = new StringBuilder();
        for (int i = 0; x.trace(i) != -1 && i < 30; i++) {
            trace.append(x.trace(i)).append(' ');
        }
        DUE.is(call + ", trace " + trace, trace.toString().equals(due.trace.toString()) ? 1 : 0, 1);
        DUE.is(call + ", trace below", x.trace(-1), -1);
    }

    private static void none() {
        TubesOfCourt x = Due.withDesks(1);
        x.capsule(6, 1, 1, 0);
        int[][] wrong = {{1, 0}, {-1, 0}, {0, 3}, {0, -1}, {5, 7}};
        for (int[] call : wrong) {
            x.act(0, 2, 5);
            DUE.is("ten bodies", x.status(8), 10);
            DUE.is("the last of them", x.trace(9), 10);
            DUE.is("none after it", x.trace(10), -1);
            DUE.is("no such", x.act(call[0], call[1], 5), 0);
            DUE.is("no trace", x.trace(0), -1);
            DUE.is("no bodies", x.status(8), 0);
        }
        for (int what = 11; what <= 17; what++) {
            DUE.is("no refusal", x.status(what), 0);
        }
        x.act(0, 0, 1);
        x.image();
        x.act(0, 2, 1);
        x.restore();
        DUE.is("the image leaves the trace", x.trace(0), 12);
        DUE.is("and how many ran", x.status(8), 10);
    }
}
