import java.util.Random;

/** Any calls with any arguments: nothing is thrown, and a refused call changes only how many there were. */
public final class AnyCallTest {
    private static final Due DUE = new Due();
    private static final Random DRAWS = new Random(1984L);
    private static final int[] EDGES = {-2147483648, -11, -2, -1, 0, 1, 2, 3, 4, 5, 6, 7, 8, 9, 10, 15, 16, 40, 41,
        60, 61, 160, 161, 255, 256, 500, 501, 1073741824, 2147483647};
    private static long latest = 0;

    public static void main(String[] args) {
        for (int run = 0; run < 300; run++) {
            TubesOfCourt x = new TubesOfCourt();
            for (int i = 0; i < 512; i++) {
                int which = DRAWS.nextInt(44);
                // From 41 on a row is made first: that is several calls, refused for themselves.
                boolean single = which <= 40;
                boolean looks = single && run < 20;
                String ahead = looks ? Due.stateOf(x) : "";
                int[] refused = refusals(x);
                String call = call(x, which);
                if (single) {
                    int number = refusalOf(which, latest);
                    counted(call, refused, refusals(x), number);
                    if (looks && number > 0) {
                        DUE.is(call + " changed nothing", Due.stateOf(x).equals(ahead) ? 1 : 0, 1);
                    }
                }
            }
        }
        sameAnswers();
        DUE.end();
    }

    private static int[] refusals(TubesOfCourt x) {
        int[] counts = new int[8];
        for (int number = 1; number <= 7; number++) {
            counts[number] = x.status(10 + number);
        }
        return counts;
    }

    /** Which refusal an answer is, upward from 1; 0 if it is none. */
    private static int refusalOf(int which, long answer) {
        switch (which) {
            case 4: case 6: case 18: case 35: case 36: case 37: case 40:
                return 0;
            case 20: case 22: case 23: case 24: case 26: case 27: case 28: case 30:
                return answer <= -11 ? (int) (-10 - answer) : 0;
            default:
                return answer < 0 ? (int) -answer : 0;
        }
    }

    private static void counted(String call, int[] ahead, int[] behind, int number) {
        DUE.is(call + " is no refusal", number <= 7 ? 1 : 0, 1);
        for (int i = 1; i <= 7; i++) {
            DUE.is(call + " counts refusal " + i, behind[i] - ahead[i], i == number ? 1 : 0);
        }
    }

    private static int any() {
        return DRAWS.nextInt(10) < 7 ? DRAWS.nextInt(9) : EDGES[DRAWS.nextInt(EDGES.length)];
    }

    private static String call(TubesOfCourt x, int which) {
        int a = any();
        int b = any();
        int c = any();
        int d = any();
        long answer;
        switch (which) {
            case 0: answer = x.row(a, DRAWS.nextInt(5), c * 8); break;
            case 1: answer = x.set(a, b, DRAWS.nextLong()); break;
            case 2: answer = x.set(a, b, c); break;
            case 3: answer = x.copy(a, b, c, d, any()); break;
            case 4: answer = x.element(a, b); break;
            case 5: answer = x.show(a, b); break;
            case 6: answer = x.holds(a); break;
            case 7: answer = x.says(a, b); break;
            case 8: answer = x.desk(); break;
            case 9: case 10: answer = x.tube(a, b, c, d); break;
            case 11: answer = x.capsule(a, b, c, d); break;
            case 12: answer = x.shut(a, DRAWS.nextBoolean()); break;
            case 13: answer = x.ask(a); break;
            case 14: answer = x.capsuleOf(a, b); break;
            case 15: answer = x.tubeOf(a, b); break;
            case 16: answer = x.signed(a); break;
            case 17: answer = x.plan(a); break;
            case 18: answer = x.fault(); break;
            case 19: answer = x.time(a, b); break;
            case 20: answer = x.way(a, b, c); break;
            case 21: answer = x.within(a, b); break;
            case 22: answer = x.round(a, b, c, d); break;
            case 23: answer = x.meet(a, b, c); break;
            case 24: answer = x.cut(a, b, c); break;
            case 25: answer = x.stuck(a, b); break;
            case 26: answer = x.listen(a, b); break;
            case 27: answer = x.enough(a, b, c); break;
            case 28: answer = x.tree(a); break;
            case 29: answer = x.seat(a, b); break;
            case 30: answer = x.judge(a, b); break;
            case 31: answer = x.behind(a, b, c); break;
            case 32: answer = x.done(a, b); break;
            case 33: answer = x.send(a, b, DRAWS.nextBoolean()); break;
            case 34: answer = x.months(a); break;
            case 35: answer = x.seed(a); break;
            case 36: answer = x.act(a, b, DRAWS.nextInt()); break;
            case 37: answer = x.trace(a); break;
            case 38: answer = x.image(); break;
            case 39: answer = x.restore(); break;
            case 40: answer = x.status(a); break;
            case 41: answer = anyPlan(x, a); break;
            default: answer = anyRow(x, a); break;
        }
        latest = answer;
        return "call " + which + " (" + a + ", " + b + ", " + c + ", " + d + ") = " + answer;
    }

    private static int anyPlan(TubesOfCourt x, int s) {
        String[] words = {"desk", "tube", "capsule", "shut", "open", "pressure", " ", " ", " ", ";", ";", "0", "1", "2", "x"};
        StringBuilder text = new StringBuilder();
        int n = DRAWS.nextInt(8);
        for (int i = 0; i < n; i++) {
            text.append(words[DRAWS.nextInt(words.length)]);
        }
        if (DRAWS.nextBoolean()) {
            text.insert(0, "desk;");
        }
        Due.putText(x, s, text.toString());
        int fault = x.fault();
        int refused = x.status(16);
        int answer = x.plan(s);
        if (answer > 0) {
            DUE.is("no fault", x.fault(), -1);
        } else if (x.status(16) > refused) {
            DUE.is("fault in the text", x.fault() >= 0 && x.fault() <= text.length() ? 1 : 0, 1);
        } else {
            DUE.is("fault as it was", x.fault(), fault);
        }
        return 0;
    }

    private static int anyRow(TubesOfCourt x, int s) {
        long[] values = new long[2 + DRAWS.nextInt(10)];
        for (int i = 0; i < values.length; i++) {
            values[i] = DRAWS.nextInt(3) == 0 ? 100 * DRAWS.nextInt(5) + 10 * DRAWS.nextInt(8) : DRAWS.nextInt(8);
        }
        Due.putRow(x, s, DRAWS.nextInt(4), values);
        return 0;
    }

    /** The same calls always give the same answers, whatever another object did. */
    private static void sameAnswers() {
        StringBuilder one = new StringBuilder();
        StringBuilder other = new StringBuilder();
        DRAWS.setSeed(7L);
        TubesOfCourt x = new TubesOfCourt();
        for (int i = 0; i < 512; i++) {
            one.append(call(x, DRAWS.nextInt(44)));
        }
        DRAWS.setSeed(7L);
        TubesOfCourt y = new TubesOfCourt();
        for (int i = 0; i < 512; i++) {
            other.append(call(y, DRAWS.nextInt(44)));
        }
        DUE.is("the same answers", one.toString().equals(other.toString()) ? 1 : 0, 1);
    }
}
