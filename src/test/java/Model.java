/**
 * The document once more, written apart from HardShop and in another shape: flat tables,
 * copies of rows, every order of jobs looked at. Slow and plain on purpose.
 */
final class Model {
    private static final int BAD = -2, NO = -3, FULL = -4, NONE = -1;

    private int parts;
    private final int[] shells = new int[12], mass = new int[12], k = new int[12], s = new int[12];
    private final int[] p = new int[12], b = new int[12], where = new int[12], partRun = new int[12];
    private final int[][][] shell = new int[12][6][6];
    private final long[] taken = new long[12];

    private final int[] gas = {200, 200, 200}, error = new int[3], lines = new int[3];
    private final int[] runOf = {-1, -1, -1}, lineAt = new int[3], counted = new int[3], surveyed = new int[3];
    private final int[][][] line = new int[3][8][3];
    private final int[][] place = {{-1, -1, -1, -1}, {-1, -1, -1, -1}, {-1, -1, -1, -1}};
    private final int[][] drift = new int[3][4];
    private final boolean[][] lost = new boolean[3][4];

    private int runs;
    private final int[] runFurnace = new int[100], runTicks = new int[100];
    private final boolean[] runOver = new boolean[100], runStopped = new boolean[100];
    private final boolean[] runThin = new boolean[100], runDoubt = new boolean[100];

    private int jobs;
    private final int[] time = new int[7], due = new int[7];

    Model() {
        java.util.Arrays.fill(where, -1);
        java.util.Arrays.fill(partRun, -1);
    }

    private static boolean out(int v, int low, int high) {
        return v < low || v > high;
    }

    int part(int n, int m, int kk, int ss, int pp, int bb) {
        if (out(n, 1, 6) || out(m, 1, 1000) || out(kk, 1, 300) || out(ss, 1, 300) || out(pp, 0, 200) || out(bb, 0, 200)) return BAD;
        if (parts == 12) return FULL;
        shells[parts] = n;
        mass[parts] = m;
        k[parts] = kk;
        s[parts] = ss;
        p[parts] = pp;
        b[parts] = bb;
        for (int i = 0; i < n; i++) {
            shell[parts][i] = new int[] {200, 0, 1000, 0, 0, 0};
        }
        return parts++;
    }

    private void oneStep(int part, int g) {
        int n = shells[part];
        int[] was = new int[n];
        for (int i = 0; i < n; i++) was[i] = shell[part][i][0];
        int a = (g - was[0]) * s[part] / 1000;
        taken[part] += a;
        shell[part][0][0] += a;
        for (int i = 0; i + 1 < n; i++) {
            int goes = (was[i] - was[i + 1]) * k[part] / 1000;
            shell[part][i][0] -= goes;
            shell[part][i + 1][0] += goes;
        }
        for (int i = 0; i < n; i++) change(shell[part][i], p[part], b[part]);
    }

    private static void change(int[] q, int p, int b) {
        int w = q[0];
        if (w > 7300) {
            int c = (w - 7300) / 10;
            for (int kind = 2; kind <= 4; kind++) {
                while (c > 0 && q[kind] > 0) {
                    q[kind]--;
                    q[1]++;
                    c--;
                }
            }
        }
        for (int i = 0; i < p && w >= 5500 && w <= 7300 && q[1] > 0; i++) {
            q[1]--;
            q[2]++;
        }
        for (int i = 0; i < b && w >= 3000 && w <= 5499 && q[1] > 0; i++) {
            q[1]--;
            q[3]++;
        }
        if (w < 3000) {
            int t = (q[1] + q[4]) * (3000 - w) / 2600;
            while (q[4] < t && q[1] > 0) {
                q[1]--;
                q[4]++;
            }
        }
        if (w >= 1500 && w <= 6500 && q[4] > 0) q[5] += (w - 1500) / 100;
        if (q[1] > 500) q[5] = 0;
    }

    int step(int part, int g, int n) {
        if (out(part, 0, parts - 1) || out(g, -1000, 12000) || out(n, 1, 200)) return BAD;
        if (where[part] >= 0) return NO;
        for (int i = 0; i < n; i++) oneStep(part, g);
        return shell[part][shells[part] - 1][0];
    }

    int shell(int part, int i, int what) {
        if (out(part, 0, parts - 1) || out(i, 0, shells[part] - 1) || out(what, 0, 6)) return -100000;
        int[] q = shell[part][i];
        if (what < 6) return q[what];
        int h = 800 - Math.min(400, q[5] / 50);
        return (200 * q[1] + 250 * q[2] + 450 * q[3] + h * q[4]) / 1000;
    }

    long taken(int part) {
        return out(part, 0, parts - 1) ? -9999999999L : taken[part];
    }

    long kept(int part) {
        return out(part, 0, parts - 1) ? 1 : 0;
    }

    int line(int f, int op, int a, int bb) {
        if (out(f, 0, 2) || out(op, 0, 3) || op != 3 && out(a, 200, 11000) || out(bb, 1, op == 0 ? 1000 : 500)) return BAD;
        if (runOf[f] >= 0) return NO;
        if (lines[f] == 8) return FULL;
        line[f][lines[f]++] = new int[] {op, a, bb};
        return lines[f];
    }

    int clear(int f) {
        if (out(f, 0, 2)) return BAD;
        if (runOf[f] >= 0) return NO;
        int gone = lines[f];
        lines[f] = 0;
        return gone;
    }

    private int massOf(int f) {
        int sum = 0;
        for (int i = 0; i < parts; i++) if (where[i] == f) sum += mass[i];
        return sum;
    }

    int load(int f, int pl, int part) {
        if (out(f, 0, 2) || out(pl, 0, 3) || out(part, 0, parts - 1)) return BAD;
        if (where[part] >= 0 || place[f][pl] >= 0 || runOf[f] >= 0 || massOf(f) + mass[part] > 1000) return NO;
        place[f][pl] = part;
        where[part] = f;
        return 1;
    }

    int unload(int f, int pl) {
        if (out(f, 0, 2) || out(pl, 0, 3)) return BAD;
        if (place[f][pl] < 0 || runOf[f] >= 0) return NO;
        int part = place[f][pl];
        place[f][pl] = -1;
        where[part] = -1;
        return part;
    }

    int probe(int f, int pl, boolean live, int d) {
        if (out(f, 0, 2) || out(pl, 0, 3) || out(d, -500, 500)) return BAD;
        lost[f][pl] = !live;
        drift[f][pl] = d;
        return 1;
    }

    int run(int f) {
        if (out(f, 0, 2)) return BAD;
        boolean none = true;
        for (int i = 0; i < parts; i++) none &= where[i] != f;
        if (runOf[f] >= 0 || lines[f] == 0 || none) return NO;
        if (runs == 100) return FULL;
        for (int i = 0; i < parts; i++) if (where[i] == f) partRun[i] = runs;
        runFurnace[runs] = f;
        runOf[f] = runs;
        lineAt[f] = 0;
        counted[f] = 0;
        return runs++;
    }

    int tick(int n) {
        if (out(n, 1, 200)) return BAD;
        for (int i = 0; i < n; i++) {
            for (int f = 0; f < 3; f++) {
                if (runOf[f] >= 0) oneTick(f);
            }
        }
        return count(2);
    }

    private void oneTick(int f) {
        int[] now = line[f][lineAt[f]];
        runTicks[runOf[f]]++;
        if (now[0] == 0) {
            for (int i = 0; i < now[2] && gas[f] != now[1]; i++) gas[f] += gas[f] < now[1] ? 1 : -1;
        } else if (now[0] != 3) {
            gas[f] = now[1];
        }
        for (int pl = 0; pl < 4; pl++) if (place[f][pl] >= 0) oneStep(place[f][pl], gas[f] + error[f]);
        boolean over;
        if (now[0] == 0) {
            over = gas[f] == now[1];
        } else {
            if (now[0] != 1 || soakCounts(f, now[1])) counted[f]++;
            over = counted[f] == now[2];
        }
        if (!over) return;
        counted[f] = 0;
        if (++lineAt[f] == lines[f]) {
            runOver[runOf[f]] = true;
            runOf[f] = -1;
        }
    }

    private boolean soakCounts(int f, int a) {
        int live = 0, warm = 0, load = 0;
        for (int pl = 0; pl < 4; pl++) {
            int part = place[f][pl];
            if (part < 0) continue;
            load++;
            if (lost[f][pl]) continue;
            live++;
            if (shell[part][shells[part] - 1][0] + drift[f][pl] >= a - 100) warm++;
        }
        boolean counts = live > 0 && warm == live;
        if (counts && live < 2 && load != 1) runThin[runOf[f]] = true;
        return counts;
    }

    int stop(int f) {
        if (out(f, 0, 2)) return BAD;
        if (runOf[f] < 0) return NO;
        runOver[runOf[f]] = true;
        runStopped[runOf[f]] = true;
        runOf[f] = -1;
        counted[f] = 0;
        return lineAt[f];
    }

    int survey(int f, int e) {
        if (out(f, 0, 2) || out(e, -500, 500)) return BAD;
        if (runOf[f] >= 0) return NO;
        int doubted = 0;
        for (int r = surveyed[f]; r < runs; r++) {
            if (e != error[f] && runFurnace[r] == f) {
                runDoubt[r] = true;
                doubted++;
            }
        }
        error[f] = e;
        surveyed[f] = runs;
        return doubted;
    }

    int about(int f, int what) {
        if (out(f, 0, 2) || out(what, 0, 6)) return BAD;
        boolean on = runOf[f] >= 0;
        return new int[] {gas[f], error[f], on ? 1 : 0, on ? lineAt[f] : NONE, counted[f], massOf(f), lines[f]}[what];
    }

    private boolean well(int r) {
        return runOver[r] && !runStopped[r] && !runThin[r];
    }

    int runAt(int r, int what) {
        if (r < 0 || out(what, 0, 4)) return BAD;
        if (r >= runs) return NONE;
        return new int[] {runFurnace[r], runOver[r] ? 1 : 0, well(r) ? 1 : 0, runDoubt[r] ? 1 : 0, runTicks[r]}[what];
    }

    int paper(int part, int low, int high) {
        if (out(part, 0, parts - 1) || low > high) return BAD;
        int r = partRun[part];
        if (r < 0) return -10;
        if (runDoubt[r]) return -11;
        if (!well(r) || !runOver[r]) return -12;
        if (out(shell(part, 0, 6), low, high)) return -13;
        return shell(part, 0, 0) > 500 ? -14 : 1;
    }

    int job(int t, int d) {
        if (out(t, 1, 1000) || out(d, 0, 10000)) return BAD;
        if (jobs == 7) return FULL;
        time[jobs] = t;
        due[jobs] = d;
        return jobs++;
    }

    int clearJobs() {
        int gone = jobs;
        jobs = 0;
        return gone;
    }

    private int[] theOrder() {
        return AllOrders.best(java.util.Arrays.copyOf(time, jobs), java.util.Arrays.copyOf(due, jobs));
    }

    int lateness() {
        return AllOrders.lateness(time, due, theOrder());
    }

    int order(int i) {
        return out(i, 0, jobs - 1) ? NONE : theOrder()[i];
    }

    int count(int what) {
        if (out(what, 0, 4)) return BAD;
        int on = 0, doubt = 0;
        for (int f = 0; f < 3; f++) if (runOf[f] >= 0) on++;
        for (int r = 0; r < runs; r++) if (runDoubt[r]) doubt++;
        return new int[] {parts, runs, on, jobs, doubt}[what];
    }

    long digest() {
        long h = 139;
        for (int what = 0; what <= 4; what++) h = 31 * h + count(what);
        for (int i = 0; i < parts; i++) {
            h = 31 * h + taken(i);
            for (int j = 0; j < shells[i]; j++) for (int what = 0; what <= 6; what++) h = 31 * h + shell(i, j, what);
        }
        for (int f = 0; f < 3; f++) for (int what = 0; what <= 6; what++) h = 31 * h + about(f, what);
        for (int r = 0; r < runs; r++) for (int what = 0; what <= 4; what++) h = 31 * h + runAt(r, what);
        return h;
    }
}
