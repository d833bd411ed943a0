/**
 * A shop where steel parts are heated, held, quenched and drawn.
 * The promises that it keeps stand, numbered, in ../shared/DOC.md.
 */
public final class HardShop {
    public static final int NONE = -1, BAD = -2, NO = -3, FULL = -4;

    private static final int BAD_SHELL = -100000;
    private static final long BAD_TAKEN = -9999999999L;
    private static final int BAD_KEPT = 1;

    private static final int MOST_PARTS = 12, MOST_SHELLS = 6, MOST_MASS = 1000;
    private static final int MOST_FLOW = 300, MOST_RATE = 200;
    private static final int FIRST_WARMTH = 200, WHOLE = 1000;
    private static final int LEAST_BESIDE = -1000, MOST_BESIDE = 12000, MOST_STEPS = 200;

    private static final int FURNACES = 3, PLACES = 4, MOST_LINES = 8, MOST_RUNS = 100;
    private static final int RAMP = 0, SOAK = 1, QUENCH = 2, REST = 3;
    private static final int LEAST_GOAL = 200, MOST_GOAL = 11000, MOST_LENGTH = 500, MOST_RAMP = 1000;
    private static final int MOST_OFF = 500, SOAK_SLACK = 100, MOST_TICKS = 200;

    private static final int GIVEN = 1, NO_RUN = -10, DOUBTED = -11, NOT_WELL = -12, NOT_HARD = -13, NOT_COLD = -14;
    private static final int COLD = 500;

    private static final int MOST_JOBS = 7, MOST_TIME = 1000, MOST_DUE = 10000;

    private static final int LAST_OF_SHELL = 6, LAST_OF_FURNACE = 6, LAST_OF_RUN = 4, LAST_OF_COUNT = 4;
    private static final long FIRST_DIGEST = 139, DIGEST_FACTOR = 31;

    private final Part[] parts = new Part[MOST_PARTS];
    private final Furnace[] furnaces = new Furnace[FURNACES];
    private final Run[] runs = new Run[MOST_RUNS];
    private final JobList jobs = new JobList();
    private int partCount;
    private int runCount;

    public HardShop() {
        for (int f = 0; f < FURNACES; f++) {
            furnaces[f] = new Furnace();
        }
    }

    // ---- parts

    public int part(int shells, int mass, int k, int s, int p, int b) {
        if (!within(shells, 1, MOST_SHELLS) || !within(mass, 1, MOST_MASS)
                || !within(k, 1, MOST_FLOW) || !within(s, 1, MOST_FLOW)
                || !within(p, 0, MOST_RATE) || !within(b, 0, MOST_RATE)) {
            return BAD;
        }
        if (partCount >= MOST_PARTS) {
            return FULL;
        }
        parts[partCount] = new Part(partCount, shells, mass, k, s, p, b);
        return partCount++;
    }

    public int step(int part, int g, int n) {
        Part steel = partAt(part);
        if (steel == null || !within(g, LEAST_BESIDE, MOST_BESIDE) || !within(n, 1, MOST_STEPS)) {
            return BAD;
        }
        if (steel.inFurnace) {
            return NO;
        }
        for (int i = 0; i < n; i++) {
            steel.stepBeside(g);
        }
        return steel.innermostWarmth();
    }

    public int shell(int part, int i, int what) {
        Part steel = partAt(part);
        if (steel == null || !within(i, 0, steel.shells.length - 1) || !within(what, 0, LAST_OF_SHELL)) {
            return BAD_SHELL;
        }
        return steel.shells[i].tell(what);
    }

    public long taken(int part) {
        Part steel = partAt(part);
        return steel == null ? BAD_TAKEN : steel.allTaken;
    }

    public long kept(int part) {
        Part steel = partAt(part);
        return steel == null ? BAD_KEPT : steel.warmthAstray();
    }

    // ---- furnaces

    public int line(int furnace, int op, int a, int b) {
        Furnace oven = furnaceAt(furnace);
        if (oven == null || !lineIsAsTold(op, a, b)) {
            return BAD;
        }
        if (oven.isRunning()) {
            return NO;
        }
        return oven.addLine(op, a, b);
    }

    public int clear(int furnace) {
        Furnace oven = furnaceAt(furnace);
        if (oven == null) {
            return BAD;
        }
        if (oven.isRunning()) {
            return NO;
        }
        int gone = oven.lineCount;
        oven.lineCount = 0;
        return gone;
    }

    public int load(int furnace, int place, int part) {
        Furnace oven = furnaceAt(furnace);
        Part steel = partAt(part);
        if (oven == null || steel == null || !within(place, 0, PLACES - 1)) {
            return BAD;
        }
        if (steel.inFurnace || oven.places[place] != null || oven.isRunning()
                || oven.massInside() + steel.mass > MOST_MASS) {
            return NO;
        }
        oven.places[place] = steel;
        steel.inFurnace = true;
        return 1;
    }

    public int unload(int furnace, int place) {
        Furnace oven = furnaceAt(furnace);
        if (oven == null || !within(place, 0, PLACES - 1)) {
            return BAD;
        }
        Part steel = oven.places[place];
        if (steel == null || oven.isRunning()) {
            return NO;
        }
        oven.places[place] = null;
        steel.inFurnace = false;
        return steel.number;
    }

    public int probe(int furnace, int place, boolean live, int drift) {
        Furnace oven = furnaceAt(furnace);
        if (oven == null || !within(place, 0, PLACES - 1) || !within(drift, -MOST_OFF, MOST_OFF)) {
            return BAD;
        }
        oven.lost[place] = !live;
        oven.drift[place] = drift;
        return 1;
    }

    public int run(int furnace) {
        Furnace oven = furnaceAt(furnace);
        if (oven == null) {
            return BAD;
        }
        if (oven.isRunning() || oven.lineCount == 0 || oven.partsInside() == 0) {
            return NO;
        }
        if (runCount >= MOST_RUNS) {
            return FULL;
        }
        Run begun = new Run(furnace);
        runs[runCount] = begun;
        oven.begin(begun);
        return runCount++;
    }

    public int tick(int n) {
        if (!within(n, 1, MOST_TICKS)) {
            return BAD;
        }
        for (int i = 0; i < n; i++) {
            for (int f = 0; f < FURNACES; f++) {
                furnaces[f].doTick();
            }
        }
        return furnacesRunning();
    }

    public int stop(int furnace) {
        Furnace oven = furnaceAt(furnace);
        if (oven == null) {
            return BAD;
        }
        if (!oven.isRunning()) {
            return NO;
        }
        int was = oven.lineNow;
        oven.end(false);
        return was;
    }

    public int survey(int furnace, int error) {
        Furnace oven = furnaceAt(furnace);
        if (oven == null || !within(error, -MOST_OFF, MOST_OFF)) {
            return BAD;
        }
        if (oven.isRunning()) {
            return NO;
        }
        int doubted = error == oven.error ? 0 : doubtRuns(furnace, oven.firstUnsurveyed);
        oven.error = error;
        oven.firstUnsurveyed = runCount;
        return doubted;
    }

    public int about(int furnace, int what) {
        Furnace oven = furnaceAt(furnace);
        if (oven == null || !within(what, 0, LAST_OF_FURNACE)) {
            return BAD;
        }
        return oven.tell(what);
    }

    public int runAt(int run, int what) {
        if (run < 0 || !within(what, 0, LAST_OF_RUN)) {
            return BAD;
        }
        if (run >= runCount) {
            return NONE;
        }
        return runs[run].tell(what);
    }

    public int paper(int part, int low, int high) {
        Part steel = partAt(part);
        if (steel == null || low > high) {
            return BAD;
        }
        Run latest = steel.latestRun;
        if (latest == null) {
            return NO_RUN;
        }
        if (latest.inDoubt) {
            return DOUBTED;
        }
        if (!latest.isWell()) {
            return NOT_WELL;
        }
        Shell outermost = steel.shells[0];
        if (!within(outermost.hardness(), low, high)) {
            return NOT_HARD;
        }
        return outermost.warmth > COLD ? NOT_COLD : GIVEN;
    }

    // ---- jobs

    public int job(int time, int due) {
        if (!within(time, 1, MOST_TIME) || !within(due, 0, MOST_DUE)) {
            return BAD;
        }
        return jobs.add(time, due);
    }

    public int clearJobs() {
        return jobs.removeAll();
    }

    public int lateness() {
        return jobs.leastLateness();
    }

    public int order(int i) {
        return within(i, 0, jobs.size - 1) ? jobs.best[i] : NONE;
    }

    public int count(int what) {
        switch (what) {
            case 0: return partCount;
            case 1: return runCount;
            case 2: return furnacesRunning();
            case 3: return jobs.size;
            case 4: return runsInDoubt();
            default: return BAD;
        }
    }

    public long digest() {
        long h = FIRST_DIGEST;
        for (int what = 0; what <= LAST_OF_COUNT; what++) {
            h = DIGEST_FACTOR * h + count(what);
        }
        for (int p = 0; p < partCount; p++) {
            h = parts[p].digestFrom(h);
        }
        for (int f = 0; f < FURNACES; f++) {
            h = furnaces[f].digestFrom(h);
        }
        for (int r = 0; r < runCount; r++) {
            h = runs[r].digestFrom(h);
        }
        return h;
    }

    // ---- helpers

    private static boolean within(int value, int low, int high) {
        return value >= low && value <= high;
    }

    private static boolean lineIsAsTold(int op, int a, int b) {
        return within(op, RAMP, REST)
                && (op == REST || within(a, LEAST_GOAL, MOST_GOAL))
                && within(b, 1, op == RAMP ? MOST_RAMP : MOST_LENGTH);
    }

    private Part partAt(int part) {
        return within(part, 0, partCount - 1) ? parts[part] : null;
    }

    private Furnace furnaceAt(int furnace) {
        return within(furnace, 0, FURNACES - 1) ? furnaces[furnace] : null;
    }

    private int furnacesRunning() {
        int running = 0;
        for (int f = 0; f < FURNACES; f++) {
            if (furnaces[f].isRunning()) {
                running++;
            }
        }
        return running;
    }

    private int doubtRuns(int furnace, int first) {
        int doubted = 0;
        for (int r = first; r < runCount; r++) {
            if (runs[r].furnace == furnace) {
                runs[r].inDoubt = true;
                doubted++;
            }
        }
        return doubted;
    }

    private int runsInDoubt() {
        int doubted = 0;
        for (int r = 0; r < runCount; r++) {
            if (runs[r].inDoubt) {
                doubted++;
            }
        }
        return doubted;
    }

    private static int truth(boolean holds) {
        return holds ? 1 : 0;
    }

    private static final class Shell {
        private static final int HOT_ABOVE = 7300, LAMELLAR_FROM = 5500, TOUGH_FROM = 3000;
        private static final int HOT_PACE = 10, HARD_SPAN = 2600;
        private static final int DRAWN_FROM = 1500, DRAWN_TO = 6500, DRAWN_PACE = 100, ANEW_ABOVE = 500;
        private static final int HOT_WORTH = 200, LAMELLAR_WORTH = 250, TOUGH_WORTH = 450, HARD_WORTH = 800;
        private static final int MOST_WEAR = 400, WEAR_PACE = 50;

        int warmth = FIRST_WARMTH;
        private int hot;
        private int lamellar = WHOLE;
        private int tough;
        private int hard;
        private int drawn;

        void change(int p, int b) {
            if (warmth > HOT_ABOVE) {
                becomeHot((warmth - HOT_ABOVE) / HOT_PACE);
            } else if (warmth >= LAMELLAR_FROM) {
                becomeLamellar(Math.min(p, hot));
            } else if (warmth >= TOUGH_FROM) {
                becomeTough(Math.min(b, hot));
            } else {
                becomeHard((hot + hard) * (TOUGH_FROM - warmth) / HARD_SPAN);
            }
            draw();
        }

        private void becomeHot(int most) {
            int fromLamellar = Math.min(most, lamellar);
            int fromTough = Math.min(most - fromLamellar, tough);
            int fromHard = Math.min(most - fromLamellar - fromTough, hard);
            lamellar -= fromLamellar;
            tough -= fromTough;
            hard -= fromHard;
            hot += fromLamellar + fromTough + fromHard;
        }

        private void becomeLamellar(int moved) {
            hot -= moved;
            lamellar += moved;
        }

        private void becomeTough(int moved) {
            hot -= moved;
            tough += moved;
        }

        private void becomeHard(int wanted) {
            if (hard < wanted) {
                int moved = Math.min(wanted - hard, hot);
                hot -= moved;
                hard += moved;
            }
        }

        private void draw() {
            if (hard > 0 && within(warmth, DRAWN_FROM, DRAWN_TO)) {
                drawn += (warmth - DRAWN_FROM) / DRAWN_PACE;
            }
            if (hot > ANEW_ABOVE) {
                drawn = 0;
            }
        }

        int hardness() {
            int hardWorth = HARD_WORTH - Math.min(MOST_WEAR, drawn / WEAR_PACE);
            return (HOT_WORTH * hot + LAMELLAR_WORTH * lamellar + TOUGH_WORTH * tough + hardWorth * hard) / WHOLE;
        }

        int tell(int what) {
            switch (what) {
                case 0: return warmth;
                case 1: return hot;
                case 2: return lamellar;
                case 3: return tough;
                case 4: return hard;
                case 5: return drawn;
                default: return hardness();
            }
        }
    }

    private static final class Part {
        private static final int PACE_WHOLE = 1000;

        final int number;
        final int mass;
        final Shell[] shells;
        private final int k;
        private final int s;
        private final int p;
        private final int b;
        long allTaken;
        boolean inFurnace;
        Run latestRun;

        Part(int number, int shellCount, int mass, int k, int s, int p, int b) {
            this.number = number;
            this.mass = mass;
            this.k = k;
            this.s = s;
            this.p = p;
            this.b = b;
            shells = new Shell[shellCount];
            for (int i = 0; i < shellCount; i++) {
                shells[i] = new Shell();
            }
        }

        void stepBeside(int g) {
            moveWarmth(g);
            for (int i = 0; i < shells.length; i++) {
                shells[i].change(p, b);
            }
        }

        // What goes on is reckoned before either of its two shells is changed, so that
        // each flow is from the warmths as they were, without a copy of them.
        private void moveWarmth(int g) {
            int comes = (g - shells[0].warmth) * s / PACE_WHOLE;
            allTaken += comes;
            for (int i = 0; i < shells.length; i++) {
                int goesOn = flowFrom(i);
                shells[i].warmth += comes - goesOn;
                comes = goesOn;
            }
        }

        private int flowFrom(int i) {
            if (i + 1 >= shells.length) {
                return 0;
            }
            return (shells[i].warmth - shells[i + 1].warmth) * k / PACE_WHOLE;
        }

        int innermostWarmth() {
            return shells[shells.length - 1].warmth;
        }

        long warmthAstray() {
            long sum = -allTaken;
            for (int i = 0; i < shells.length; i++) {
                sum += shells[i].warmth - FIRST_WARMTH;
            }
            return sum;
        }

        long digestFrom(long start) {
            long h = DIGEST_FACTOR * start + allTaken;
            for (int i = 0; i < shells.length; i++) {
                for (int what = 0; what <= LAST_OF_SHELL; what++) {
                    h = DIGEST_FACTOR * h + shells[i].tell(what);
                }
            }
            return h;
        }
    }

    private static final class Run {
        final int furnace;
        boolean inDoubt;
        boolean tooFewProbes;
        int ticks;
        private boolean over;
        private boolean wentToEnd;

        Run(int furnace) {
            this.furnace = furnace;
        }

        void end(boolean atItsEnd) {
            over = true;
            wentToEnd = atItsEnd;
        }

        boolean isWell() {
            return wentToEnd && !tooFewProbes;
        }

        int tell(int what) {
            switch (what) {
                case 0: return furnace;
                case 1: return truth(over);
                case 2: return truth(isWell());
                case 3: return truth(inDoubt);
                default: return ticks;
            }
        }

        long digestFrom(long start) {
            long h = start;
            for (int what = 0; what <= LAST_OF_RUN; what++) {
                h = DIGEST_FACTOR * h + tell(what);
            }
            return h;
        }
    }

    private static final class Furnace {
        private static final int FIRST_GAS = 200;

        final Part[] places = new Part[PLACES];
        final boolean[] lost = new boolean[PLACES];
        final int[] drift = new int[PLACES];
        private final int[] ops = new int[MOST_LINES];
        private final int[] goals = new int[MOST_LINES];
        private final int[] lengths = new int[MOST_LINES];
        int lineCount;
        int lineNow;
        int error;
        int firstUnsurveyed;
        private int gas = FIRST_GAS;
        private int counted;
        private Run current;

        boolean isRunning() {
            return current != null;
        }

        int addLine(int op, int goal, int length) {
            if (lineCount >= MOST_LINES) {
                return FULL;
            }
            ops[lineCount] = op;
            goals[lineCount] = goal;
            lengths[lineCount] = length;
            lineCount++;
            return lineCount;
        }

        int massInside() {
            int sum = 0;
            for (int i = 0; i < PLACES; i++) {
                if (places[i] != null) {
                    sum += places[i].mass;
                }
            }
            return sum;
        }

        int partsInside() {
            int inside = 0;
            for (int i = 0; i < PLACES; i++) {
                if (places[i] != null) {
                    inside++;
                }
            }
            return inside;
        }

        void begin(Run begun) {
            current = begun;
            lineNow = 0;
            for (int i = 0; i < PLACES; i++) {
                if (places[i] != null) {
                    places[i].latestRun = begun;
                }
            }
        }

        void end(boolean atItsEnd) {
            if (current != null) {
                current.end(atItsEnd);
            }
            current = null;
            counted = 0;
        }

        void doTick() {
            if (current == null) {
                return;
            }
            current.ticks++;
            gas = gasByLine();
            for (int i = 0; i < PLACES; i++) {
                if (places[i] != null) {
                    places[i].stepBeside(gas + error);
                }
            }
            if (lineIsOver(current)) {
                goToNextLine();
            }
        }

        private int gasByLine() {
            switch (ops[lineNow]) {
                case RAMP: return gasNearer(goals[lineNow], lengths[lineNow]);
                case SOAK: return goals[lineNow];
                case QUENCH: return goals[lineNow];
                default: return gas;
            }
        }

        private int gasNearer(int goal, int by) {
            return gas < goal ? Math.min(goal, gas + by) : Math.max(goal, gas - by);
        }

        private boolean lineIsOver(Run run) {
            if (ops[lineNow] == RAMP) {
                return gas == goals[lineNow];
            }
            if (ops[lineNow] == SOAK) {
                countSoak(run);
            } else {
                counted++;
            }
            return counted >= lengths[lineNow];
        }

        private void countSoak(Run run) {
            int live = 0;
            for (int i = 0; i < PLACES; i++) {
                if (places[i] == null || lost[i]) {
                    continue;
                }
                live++;
                if (places[i].innermostWarmth() + drift[i] < goals[lineNow] - SOAK_SLACK) {
                    return;
                }
            }
            if (live == 0) {
                return;
            }
            counted++;
            if (live < 2 && partsInside() > 1) {
                run.tooFewProbes = true;
            }
        }

        private void goToNextLine() {
            lineNow++;
            counted = 0;
            if (lineNow >= lineCount) {
                end(true);
            }
        }

        int tell(int what) {
            switch (what) {
                case 0: return gas;
                case 1: return error;
                case 2: return truth(isRunning());
                case 3: return isRunning() ? lineNow : NONE;
                case 4: return counted;
                case 5: return massInside();
                default: return lineCount;
            }
        }

        long digestFrom(long start) {
            long h = start;
            for (int what = 0; what <= LAST_OF_FURNACE; what++) {
                h = DIGEST_FACTOR * h + tell(what);
            }
            return h;
        }
    }

    private static final class JobList {
        private final int[] times = new int[MOST_JOBS];
        private final int[] dues = new int[MOST_JOBS];
        // By the set of jobs that are done, as bits: the least lateness of all the others.
        private final int[] leastBehind = new int[1 << MOST_JOBS];
        final int[] best = new int[MOST_JOBS];
        int size;

        int add(int time, int due) {
            if (size >= MOST_JOBS) {
                return FULL;
            }
            times[size] = time;
            dues[size] = due;
            size++;
            plan();
            return size - 1;
        }

        int removeAll() {
            int gone = size;
            size = 0;
            plan();
            return gone;
        }

        int leastLateness() {
            return leastBehind[0];
        }

        private void plan() {
            int all = (1 << size) - 1;
            leastBehind[all] = 0;
            for (int done = all - 1; done >= 0; done--) {
                int next = nextOf(done);
                leastBehind[done] = latenessWith(next, done);
            }
            int done = 0;
            for (int i = 0; i < size; i++) {
                best[i] = nextOf(done);
                done |= 1 << best[i];
            }
        }

        // The lowest number wins among like ones, and so the order is the first by numbers.
        private int nextOf(int done) {
            int next = 0;
            int least = Integer.MAX_VALUE;
            for (int j = 0; j < size; j++) {
                if ((done >> j & 1) == 0) {
                    int late = latenessWith(j, done);
                    if (late < least) {
                        least = late;
                        next = j;
                    }
                }
            }
            return next;
        }

        private int latenessWith(int next, int done) {
            int end = times[next];
            for (int j = 0; j < size; j++) {
                if ((done >> j & 1) == 1) {
                    end += times[j];
                }
            }
            return Math.max(0, end - dues[next]) + leastBehind[done | 1 << next];
        }
    }
}
