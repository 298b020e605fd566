import java.util.Random;

/** Promises 19 to 34 upon drawn ministries, against answers found by trying all there is to try. */
public final class OracleTest {
    private static final Due DUE = new Due();
    private static final int FAR = 1000000;
    private static final Random DRAWS = new Random(20261118L);

    private final TubesOfCourt x = new TubesOfCourt();
    private final int desks;
    private final int tubes;
    private final int capsules;
    private final int[][] tube;
    private final int[][] capsule;
    private final boolean[] shut;
    private int pressure;

    private OracleTest(int mostDesks, int mostTubes) {
        desks = 1 + DRAWS.nextInt(mostDesks);
        tubes = desks == 1 ? 0 : DRAWS.nextInt(mostTubes + 1);
        capsules = 5;
        tube = new int[tubes][];
        shut = new boolean[tubes];
        capsule = new int[capsules][];
        pressure = 1 + DRAWS.nextInt(9);
        for (int d = 0; d < desks; d++) {
            x.desk();
        }
        int longest = DRAWS.nextBoolean() ? 9 : 2;
        for (int t = 0; t < tubes; t++) {
            int from = DRAWS.nextInt(desks);
            int to = (from + 1 + DRAWS.nextInt(desks - 1)) % desks;
            tube[t] = new int[] {from, to, 1 + DRAWS.nextInt(longest), 1 + DRAWS.nextInt(9)};
            x.tube(from, to, tube[t][2], tube[t][3]);
            shut[t] = DRAWS.nextInt(5) == 0;
            x.shut(t, shut[t]);
        }
        for (int c = 0; c < capsules; c++) {
            capsule[c] = new int[] {DRAWS.nextInt(7), DRAWS.nextInt(10), 1 + DRAWS.nextInt(6), DRAWS.nextInt(desks)};
            x.capsule(capsule[c][0], capsule[c][1], capsule[c][2], capsule[c][3]);
        }
        x.ask(pressure);
    }

    public static void main(String[] args) {
        for (int i = 0; i < 400; i++) {
            OracleTest court = new OracleTest(i % 2 == 0 ? 8 : 5, i % 3 == 0 ? 16 : 9);
            court.ways();
            court.rounds();
            court.meetings();
            court.cuts();
            court.knocks();
            court.enough();
            court.tree();
            court.seats();
            court.days();
        }
        DUE.end();
    }

    private static int upward(int load, int by) {
        int minutes = 0;
        while (minutes * by < load) {
            minutes++;
        }
        return minutes;
    }

    private int minutes(int c, int t, int p) {
        int load = tube[t][2] * capsule[c][2];
        int kind = capsule[c][0];
        if (kind == 5) {
            return tube[t][2];
        }
        boolean less = kind == 2 || kind == 6;
        int time = upward(load, less ? 10 - p : p);
        if (kind == 1 || less) {
            time = time == 1 ? 1 : time - 1;
        }
        if (kind == 3 || kind == 4) {
            time += capsule[c][1];
        }
        if (kind == 6 && tube[t][3] == capsule[c][2]) {
            time += 2;
        }
        return time;
    }

    private boolean may(int c, int t, boolean forth, int shutBesides) {
        if (capsule[c][0] == 5) {
            return true;
        }
        if (shut[t] || (shutBesides & 1 << t) != 0 || tube[t][3] < capsule[c][2]) {
            return false;
        }
        return forth || capsule[c][0] != 4;
    }

    /** Least sums from each desk to each, of minutes or of steps. */
    private int[][] sums(int c, int p, int shutBesides, boolean steps) {
        int[][] sum = new int[desks][desks];
        for (int d = 0; d < desks; d++) {
            for (int e = 0; e < desks; e++) {
                sum[d][e] = d == e ? 0 : FAR;
            }
        }
        for (int t = 0; t < tubes; t++) {
            int taken = steps ? 1 : minutes(c, t, p);
            int from = tube[t][0];
            int to = tube[t][1];
            if (may(c, t, true, shutBesides)) {
                sum[from][to] = Math.min(sum[from][to], taken);
            }
            if (may(c, t, false, shutBesides)) {
                sum[to][from] = Math.min(sum[to][from], taken);
            }
        }
        close(sum);
        return sum;
    }

    private static void close(int[][] sum) {
        for (int over = 0; over < sum.length; over++) {
            for (int d = 0; d < sum.length; d++) {
                for (int e = 0; e < sum.length; e++) {
                    sum[d][e] = Math.min(sum[d][e], sum[d][over] + sum[over][e]);
                }
            }
        }
    }

    private static int orNone(int sum) {
        return sum >= FAR ? -1 : sum;
    }

    private void ways() {
        for (int c = 0; c < capsules; c++) {
            int[][] sum = sums(c, pressure, 0, false);
            int[][] steps = sums(c, pressure, 0, true);
            int at = capsule[c][3];
            int dire = 0;
            for (int t = 0; t < tubes; t++) {
                DUE.is("time", x.time(c, t), minutes(c, t, pressure));
                dire |= may(c, t, true, 0) || may(c, t, false, 0) ? 1 << t : 0;
            }
            DUE.is("dire", x.within(c, -1), dire);
            int m = DRAWS.nextInt(60);
            int within = 0;
            for (int d = 0; d < desks; d++) {
                within |= sum[at][d] <= m ? 1 << d : 0;
                DUE.is("way", x.way(c, d, 0), orNone(sum[at][d]));
                DUE.is("steps", x.way(c, d, 2), orNone(steps[at][d]));
                DUE.is("first", x.way(c, d, 1), first(c, d, sum));
            }
            DUE.is("within", x.within(c, m), within);
        }
    }

    private int first(int c, int d, int[][] sum) {
        int at = capsule[c][3];
        if (d == at || sum[at][d] >= FAR) {
            return -1;
        }
        for (int t = 0; t < tubes; t++) {
            boolean forth = tube[t][0] == at && may(c, t, true, 0);
            boolean back = tube[t][1] == at && may(c, t, false, 0);
            int other = forth ? tube[t][1] : tube[t][0];
            if ((forth || back) && minutes(c, t, pressure) + sum[other][d] == sum[at][d]) {
                return t;
            }
        }
        return -2;
    }

    private int bestRound = 0;
    private int[] bestOrder = null;

    private void rounds() {
        int c = DRAWS.nextInt(capsules);
        int wanted = 1 + DRAWS.nextInt((1 << desks) - 1);
        while (Integer.bitCount(wanted) > 6) {
            wanted &= wanted - 1;
        }
        int stay = DRAWS.nextInt(3);
        bestRound = FAR;
        bestOrder = null;
        tryOrders(sums(c, pressure, 0, false), capsule[c][3], wanted, stay, 0, new int[0]);
        DUE.is("round", x.round(c, wanted, stay, -1), orNone(bestRound));
        for (int i = 0; i < Integer.bitCount(wanted); i++) {
            DUE.is("round's " + i, x.round(c, wanted, stay, i), bestOrder == null ? -1 : bestOrder[i]);
        }
    }

    private void tryOrders(int[][] sum, int at, int left, int stay, int soFar, int[] order) {
        if (left == 0 && soFar < bestRound) {
            bestRound = soFar;
            bestOrder = order;
        }
        for (int d = 0; d < desks; d++) {
            if ((left & 1 << d) != 0 && sum[at][d] < FAR) {
                int[] longer = java.util.Arrays.copyOf(order, order.length + 1);
                longer[order.length] = d;
                tryOrders(sum, d, left & ~(1 << d), stay, soFar + sum[at][d] + stay, longer);
            }
        }
    }

    private void meetings() {
        int one = DRAWS.nextInt(capsules);
        int other = (one + 1 + DRAWS.nextInt(capsules - 1)) % capsules;
        int[] first = sums(one, pressure, 0, false)[capsule[one][3]];
        int[] second = sums(other, pressure, 0, false)[capsule[other][3]];
        int best = -1;
        int least = FAR;
        for (int d = 0; d < desks; d++) {
            int later = Math.max(first[d], second[d]);
            if (later < least) {
                least = later;
                best = d;
            }
        }
        DUE.is("meet", x.meet(one, other, 0), best);
        DUE.is("meet's minutes", x.meet(one, other, 1), orNone(least));
    }

    private void cuts() {
        int c = DRAWS.nextInt(capsules);
        int goal = DRAWS.nextInt(desks);
        int at = capsule[c][3];
        if (goal == at) {
            DUE.is("cut from his own", x.cut(c, goal, 0), -16);
            return;
        }
        boolean hasWay = sums(c, pressure, 0, true)[at][goal] < FAR;
        int keep = 0;
        for (int t = 0; t < tubes; t++) {
            keep |= hasWay && sums(c, pressure, 1 << t, true)[at][goal] >= FAR ? 1 << t : 0;
        }
        DUE.is("keep", x.cut(c, goal, 1), keep);
        if (tubes <= 9) {
            int fewest = FAR;
            for (int bits = 0; bits < 1 << tubes; bits++) {
                if (Integer.bitCount(bits) < fewest && sums(c, pressure, bits, true)[at][goal] >= FAR) {
                    fewest = Integer.bitCount(bits);
                }
            }
            DUE.is("cut", x.cut(c, goal, 0), orNone(fewest));
        }
    }

    private void knocks() {
        int[][] sum = new int[desks][desks];
        for (int d = 0; d < desks; d++) {
            for (int e = 0; e < desks; e++) {
                sum[d][e] = d == e ? 0 : FAR;
            }
        }
        for (int t = 0; t < tubes; t++) {
            if (!shut[t]) {
                int least = Math.min(sum[tube[t][0]][tube[t][1]], tube[t][2]);
                sum[tube[t][0]][tube[t][1]] = least;
                sum[tube[t][1]][tube[t][0]] = least;
            }
        }
        close(sum);
        int[][] heard = new int[tubes][desks];
        for (int t = 0; t < tubes; t++) {
            for (int d = 0; d < desks; d++) {
                heard[t][d] = Math.min(sum[tube[t][0]][d], sum[tube[t][1]][d]);
            }
        }
        for (int n = 1; n <= 4; n++) {
            knocksOf(n, heard);
        }
    }

    private void knocksOf(int n, int[][] heard) {
        long[] row = new long[2 * n];
        int source = tubes == 0 ? -1 : DRAWS.nextInt(tubes);
        int told = 0;
        for (int i = 0; i < n; i++) {
            int d = DRAWS.nextInt(desks);
            told |= 1 << d;
            row[2 * i] = d;
            boolean comes = source >= 0 && heard[source][d] < FAR;
            row[2 * i + 1] = comes ? 3 + heard[source][d] : DRAWS.nextInt(20);
        }
        Due.putRow(x, n % 8, 1 + n % 3, row);
        int fit = 0;
        for (int t = 0; t < tubes; t++) {
            for (int began = -100; began <= 100; began++) {
                boolean fits = true;
                for (int i = 0; i < n; i++) {
                    int d = (int) row[2 * i];
                    fits &= heard[t][d] < FAR && began + heard[t][d] == row[2 * i + 1];
                }
                fit |= fits ? 1 << t : 0;
            }
        }
        DUE.is("stuck", x.stuck(n % 8, n), fit);
        DUE.is("listen", x.listen(n % 8, n), listen(fit, told, (int) row[0], heard));
    }

    private int listen(int fit, int told, int first, int[][] heard) {
        int best = -1;
        int fewest = FAR;
        for (int d = 0; d < desks && Integer.bitCount(fit) > 1; d++) {
            if ((told & 1 << d) == 0) {
                java.util.HashMap<String, Integer> left = new java.util.HashMap<>();
                int most = 0;
                for (int t = 0; t < tubes; t++) {
                    if ((fit & 1 << t) != 0) {
                        String late = heard[t][d] >= FAR ? "never" : "" + (heard[t][d] - heard[t][first]);
                        most = Math.max(most, left.merge(late, 1, Integer::sum));
                    }
                }
                if (most < fewest) {
                    fewest = most;
                    best = d;
                }
            }
        }
        return best;
    }

    private void enough() {
        for (int c = 0; c < capsules; c++) {
            int d = DRAWS.nextInt(desks);
            int m = DRAWS.nextInt(40);
            int due = -1;
            for (int p = 9; p >= 1; p--) {
                due = sums(c, p, 0, false)[capsule[c][3]][d] <= m ? p : due;
            }
            DUE.is("enough", x.enough(c, d, m), due);
        }
    }

    private void tree() {
        if (tubes > 9) {
            return;
        }
        int least = FAR;
        int which = -1;
        for (int bits = 0; bits < 1 << tubes; bits++) {
            int sum = 0;
            int[][] joined = new int[desks][desks];
            for (int d = 0; d < desks; d++) {
                for (int e = 0; e < desks; e++) {
                    joined[d][e] = d == e ? 0 : FAR;
                }
            }
            for (int t = 0; t < tubes; t++) {
                if ((bits & 1 << t) != 0) {
                    sum += tube[t][2];
                    joined[tube[t][0]][tube[t][1]] = 1;
                    joined[tube[t][1]][tube[t][0]] = 1;
                }
            }
            close(joined);
            boolean all = true;
            for (int d = 0; d < desks; d++) {
                all &= joined[0][d] < FAR;
            }
            if (all && sum < least) {
                least = sum;
                which = bits;
            }
        }
        DUE.is("tree", x.tree(0), orNone(least));
        DUE.is("tree's tubes", x.tree(1), which);
    }

    private void seats() {
        for (int c = 0; c < capsules; c++) {
            int[][] sum = sums(c, pressure, 0, false);
            int best = -1;
            int least = FAR;
            for (int d = 0; d < desks; d++) {
                int longest = 0;
                for (int e = 0; e < desks; e++) {
                    longest = Math.max(longest, Math.min(sum[d][e], 9999));
                }
                if (longest < least) {
                    least = longest;
                    best = d;
                }
            }
            DUE.is("seat", x.seat(c, 0), best);
            DUE.is("latest", x.seat(c, 1), least);
        }
    }

    private void days() {
        int n = DRAWS.nextInt(41);
        long[] row = new long[n];
        int[] at = new int[capsules];
        int minutes = 0;
        int signs = 0;
        int wrong = -1;
        for (int c = 0; c < capsules; c++) {
            at[c] = capsule[c][3];
        }
        for (int i = 0; i < n; i++) {
            int c = DRAWS.nextInt(capsules);
            int d = DRAWS.nextInt(desks);
            int sign = DRAWS.nextInt(2);
            row[i] = 100 * c + 10 * d + sign;
            int sum = sums(c, pressure, 0, false)[at[c]][d];
            if (sum >= FAR && DRAWS.nextInt(8) != 0) {
                row[i] = 100 * c + 10 * at[c];
            } else if (sum >= FAR) {
                wrong = wrong < 0 ? i : wrong;
            } else if (wrong < 0) {
                at[c] = d;
                minutes += sum;
                signs += sign;
            }
        }
        Due.putRow(x, 0, 1, row);
        DUE.is("judge", x.judge(0, n), wrong);
        DUE.is("behind, minutes", x.behind(0, n, 0), wrong < 0 ? minutes : -6);
        DUE.is("behind, signed", x.behind(0, n, 1), wrong < 0 ? signs : -6);
        DUE.is("behind, where 0 is", x.behind(0, n, 2), wrong < 0 ? at[0] : -6);
        DUE.is("done", x.done(0, n), wrong < 0 ? minutes : -6);
        DUE.is("signed", x.status(5), wrong < 0 ? signs : 0);
        for (int c = 0; c < capsules; c++) {
            DUE.is("at", x.capsuleOf(c, 3), wrong < 0 ? at[c] : capsule[c][3]);
        }
    }
}
