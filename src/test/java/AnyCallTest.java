import java.util.Random;

/** Any calls with any arguments: nothing is thrown, and a refused call changes only how many there were. */
public final class AnyCallTest {
    private static final Due DUE = new Due();
    private static final Random DRAWS = new Random(1984L);
    private static final int[] EDGES = {-2147483648, -11, -2, -1, 0, 1, 2, 3, 4, 5, 6, 7, 8, 9, 10, 15, 16, 40, 41,
        60, 61, 160, 161, 255, 256, 500, 501, 1073741824, 2147483647};
    private static final String[] WORDS = {"desk", "tube", "capsule", "shut", "open", "pressure", " ", " ", " ", ";",
        ";", "0", "1", "2", "x"};

    /** As many calls as the document lets an object have; how many a look at all, a drawn plan may take. */
    private static final int MOST_CALLS = 512;
    private static final int CALLS_OF_LOOK = 160;
    private static final int CALLS_OF_PLAN = 80;
    private static final int KINDS_OF_CALL = 41;
    private static final int DRAWN_PLAN = 41;
    private static final int DRAWN_ROW = 42;

    private static int calls = 0;
    private static long latest = 0;

    public static void main(String[] args) {
        for (int run = 0; run < 600; run++) {
            counted(run);
        }
        for (int run = 0; run < 3000; run++) {
            changedNothing(run);
        }
        sameAnswers();
        DUE.end();
    }

    /** As many calls as an object may have: how often was refused is what its answers say. */
    private static void counted(int run) {
        TubesOfCourt x = new TubesOfCourt();
        int[] due = new int[8];
        calls = 7;
        while (calls < MOST_CALLS) {
            boolean hasRoom = calls < MOST_CALLS - CALLS_OF_PLAN;
            int which = DRAWS.nextInt(hasRoom ? DRAWN_ROW + 1 : KINDS_OF_CALL);
            String call = call(x, which);
            int number = refusalOf(which, latest);
            DUE.holds(call + " is a refusal that is named", number <= 7);
            due[Math.min(number, 7)]++;
        }
        for (int i = 1; i <= 7; i++) {
            DUE.is("run " + run + ", refusals -" + i, x.status(10 + i), due[i]);
        }
    }

    private static void changedNothing(int run) {
        TubesOfCourt x = run % 2 == 0 ? new TubesOfCourt() : Due.line(3 + run % 5, 1 + run % 9, 9);
        calls = run % 2 == 0 ? 0 : 15;
        int many = DRAWS.nextInt(MOST_CALLS - 2 * CALLS_OF_LOOK - CALLS_OF_PLAN);
        while (calls < many) {
            call(x, DRAWS.nextInt(DRAWN_ROW + 1));
        }
        int which = DRAWS.nextInt(KINDS_OF_CALL);
        String ahead = Due.stateOf(x);
        String call = call(x, which);
        if (refusalOf(which, latest) > 0) {
            DUE.holds(call + " changed nothing", Due.stateOf(x).equals(ahead));
        }
    }

    /** Which refusal an answer is, upward from 1; 0 if it is none. */
    private static int refusalOf(int which, long answer) {
        switch (which) {
            case 4: case 6: case 18: case 35: case 36: case 37: case 40:
                return 0;
            case 20: case 22: case 23: case 24: case 26: case 27: case 28: case 30:
                return answer <= -11 ? (int) (-10 - answer) : 0;
            default:
                return answer < 0 ? (int) -answer : 0;
        }
    }

    private static int any() {
        return DRAWS.nextInt(10) < 7 ? DRAWS.nextInt(9) : EDGES[DRAWS.nextInt(EDGES.length)];
    }

    private static String call(TubesOfCourt x, int which) {
        int a = any();
        int b = any();
        int c = any();
        int d = any();
        calls++;
        latest = answer(x, which, new int[] {a, b, c, d});
        return "call " + which + " (" + a + ", " + b + ", " + c + ", " + d + ") = " + latest;
    }

    private static long answer(TubesOfCourt x, int which, int[] with) {
        int a = with[0];
        int b = with[1];
        int c = with[2];
        int d = with[3];
        switch (which) {
            case 0: return x.row(a, DRAWS.nextInt(5), c * 8);
            case 1: return x.set(a, b, DRAWS.nextLong());
            case 2: return x.set(a, b, c);
            case 3: return x.copy(a, b, c, d, any());
            case 4: return x.element(a, b);
            case 5: return x.show(a, b);
            case 6: return x.holds(a);
            case 7: return x.says(a, b);
            case 8: return x.desk();
            case 9: case 10: return x.tube(a, b, c, d);
            case 11: return x.capsule(a, b, c, d);
            case 12: return x.shut(a, DRAWS.nextBoolean());
            case 13: return x.ask(a);
            case 14: return x.capsuleOf(a, b);
            case 15: return x.tubeOf(a, b);
            case 16: return x.signed(a);
            case 17: return x.plan(a);
            case 18: return x.fault();
            case 19: return x.time(a, b);
            case 20: return x.way(a, b, c);
            case 21: return x.within(a, b);
            case 22: return x.round(a, b, c, d);
            case 23: return x.meet(a, b, c);
            case 24: return x.cut(a, b, c);
            case 25: return x.stuck(a, b);
            case 26: return x.listen(a, b);
            case 27: return x.enough(a, b, c);
            case 28: return x.tree(a);
            case 29: return x.seat(a, b);
            case 30: return x.judge(a, b);
            case 31: return x.behind(a, b, c);
            case 32: return x.done(a, b);
            case 33: return x.send(a, b, DRAWS.nextBoolean());
            case 34: return x.months(a);
            case 35: return x.seed(a);
            case 36: return x.act(a, b, DRAWS.nextInt());
            case 37: return x.trace(a);
            case 38: return x.image();
            case 39: return x.restore();
            case 40: return x.status(a);
            case DRAWN_PLAN: return drawnPlan(x, a & 7);
            default: return drawnRow(x, a & 7);
        }
    }

    /** Makes a row of a drawn text, which is never refused, and tries it as a plan. */
    private static int drawnPlan(TubesOfCourt x, int s) {
        StringBuilder text = new StringBuilder(DRAWS.nextBoolean() ? "desk;" : "");
        int n = DRAWS.nextInt(8);
        for (int i = 0; i < n; i++) {
            text.append(WORDS[DRAWS.nextInt(WORDS.length)]);
        }
        Due.putText(x, s, text.toString());
        int answer = x.plan(s);
        int fault = x.fault();
        DUE.holds("plan of '" + text + "' with fault " + fault,
            answer == -6 ? fault >= 0 && fault <= text.length() : answer > 0 && fault == -1);
        calls += text.length() + 2;
        return answer;
    }

    private static int drawnRow(TubesOfCourt x, int s) {
        long[] values = new long[2 + DRAWS.nextInt(10)];
        for (int i = 0; i < values.length; i++) {
            values[i] = DRAWS.nextInt(3) == 0 ? 100 * DRAWS.nextInt(5) + 10 * DRAWS.nextInt(8) : DRAWS.nextInt(8);
        }
        Due.putRow(x, s, DRAWS.nextInt(4), values);
        calls += values.length;
        return 0;
    }

    /** The same calls always give the same answers, whatever another object did. */
    private static void sameAnswers() {
        for (int seed = 0; seed < 20; seed++) {
            String one = answersOf(seed);
            DUE.holds("the same answers", answersOf(seed).equals(one));
        }
    }

    private static String answersOf(int seed) {
        StringBuilder all = new StringBuilder();
        DRAWS.setSeed(seed);
        TubesOfCourt x = new TubesOfCourt();
        calls = 0;
        while (calls < MOST_CALLS - CALLS_OF_PLAN) {
            all.append(call(x, DRAWS.nextInt(DRAWN_ROW + 1)));
        }
        return all.toString();
    }
}
