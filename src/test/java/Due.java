/** Compares answers with those that are due, and ends with exit code 1 if one was not. */
final class Due {
    private static final int MOST_TOLD = 30;

    private int wrong = 0;
    private int asked = 0;

    void is(String what, long got, long want) {
        asked++;
        if (got != want) {
            wrong++;
            if (wrong <= MOST_TOLD) {
                System.out.println(what + " answered " + got + ", due is " + want);
            }
        }
    }

    void end() {
        System.out.println(asked + " answers, " + wrong + " not as due");
        if (wrong != 0 || asked == 0) {
            System.exit(1);
        }
    }

    static void putRow(TubesOfCourt x, int s, int sort, long... values) {
        x.row(s, sort, values.length);
        for (int i = 0; i < values.length; i++) {
            x.set(s, i, values[i]);
        }
    }

    static void putText(TubesOfCourt x, int s, String text) {
        x.row(s, 0, text.length());
        for (int i = 0; i < text.length(); i++) {
            x.set(s, i, text.charAt(i));
        }
    }

    static TubesOfCourt withDesks(int n) {
        TubesOfCourt x = new TubesOfCourt();
        for (int i = 0; i < n; i++) {
            x.desk();
        }
        return x;
    }

    /** All that can be asked of an object without changing it, but for what is refused. */
    static String stateOf(TubesOfCourt x) {
        StringBuilder all = new StringBuilder();
        for (int what = 0; what <= 7; what++) {
            all.append(x.status(what)).append(' ');
        }
        for (int t = 0; t < x.status(1); t++) {
            for (int what = 0; what <= 4; what++) {
                all.append(x.tubeOf(t, what)).append(' ');
            }
        }
        for (int c = 0; c < x.status(2); c++) {
            for (int what = 0; what <= 3; what++) {
                all.append(x.capsuleOf(c, what)).append(' ');
            }
        }
        for (int d = 0; d < x.status(0); d++) {
            all.append(x.signed(d)).append(' ');
        }
        for (int s = 0; s < 8; s++) {
            all.append(x.holds(s)).append(' ');
            for (int i = 0; i < 160; i++) {
                all.append(x.element(s, i)).append(' ');
            }
        }
        return all.toString();
    }
}
