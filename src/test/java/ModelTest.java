import java.util.Random;

/** Random runs of at most 512 calls, digests among them, the same ones each time, on HardShop and on the Model beside it. */
public final class ModelTest {
    private static final int ROUNDS = 500, CALLS = 400, DIGEST_EACH = 4;
    private static final int[] FAR = {Integer.MIN_VALUE, Integer.MIN_VALUE + 1, -1000000, 1000000, Integer.MAX_VALUE};

    private final Check check;
    private final Random random;
    private final int wildness;
    private final HardShop x = new HardShop();
    private final Model y = new Model();
    private String told = "";

    private ModelTest(Check check, int round) {
        this.check = check;
        this.random = new Random(round);
        this.wildness = round % 4 == 0 ? 300 : 15;
    }

    public static void main(String[] args) {
        Check check = new Check();
        for (int round = 0; round < ROUNDS; round++) {
            new ModelTest(check, round).play("round " + round + ", call ");
        }
        check.end();
    }

    private void play(String name) {
        for (int call = 0; call < CALLS; call++) {
            told = name + call + ": ";
            int kind = random.nextInt(100);
            if (kind < 30) {
                askParts();
            } else if (kind < 55) {
                changeFurnaces();
            } else if (kind < 75) {
                workFurnaces();
            } else if (kind < 90) {
                askFurnaces();
            } else {
                jobs();
            }
            if (call % DIGEST_EACH == DIGEST_EACH - 1) {
                due("digest()", x.digest(), y.digest());
            }
        }
    }

    private void due(String call, long got, long want) {
        check.due(told + call, got, want);
    }

    /** Mostly low .. high, and now and then an edge, one beyond it, or far off. */
    private int number(int low, int high) {
        int kind = random.nextInt(1000);
        if (kind < wildness) {
            switch (random.nextInt(3)) {
                case 0: return low - 1;
                case 1: return high + 1;
                default: return FAR[random.nextInt(FAR.length)];
            }
        }
        if (kind < 100 + wildness) {
            return random.nextBoolean() ? low : high;
        }
        return low + random.nextInt(high - low + 1);
    }

    private int partNumber() {
        return number(0, Math.max(0, y.count(0) - 1));
    }

    private void askParts() {
        int part = partNumber();
        switch (random.nextInt(8)) {
            case 0:
            case 1: newPart(); break;
            case 2:
            case 3: {
                int g = number(-1000, 12000);
                int n = random.nextBoolean() ? number(1, 8) : number(1, 200);
                due("step(" + part + ", " + g + ", " + n + ")", x.step(part, g, n), y.step(part, g, n));
                break;
            }
            case 4:
            case 5: {
                int i = number(0, 5);
                int what = number(0, 6);
                due("shell(" + part + ", " + i + ", " + what + ")", x.shell(part, i, what), y.shell(part, i, what));
                break;
            }
            case 6: due("taken(" + part + ")", x.taken(part), y.taken(part)); break;
            default: due("kept(" + part + ")", x.kept(part), y.kept(part)); break;
        }
    }

    private void newPart() {
        int shells = number(1, 6);
        int mass = random.nextInt(3) == 0 ? number(1, 1000) : number(1, 250);
        int k = random.nextInt(3) == 0 ? number(1, 300) : number(100, 300);
        int s = random.nextInt(3) == 0 ? number(1, 300) : number(100, 300);
        int p = number(0, 200);
        int b = number(0, 200);
        due("part(" + shells + ", " + mass + ", " + k + ", " + s + ", " + p + ", " + b + ")",
                x.part(shells, mass, k, s, p, b), y.part(shells, mass, k, s, p, b));
    }

    private void changeFurnaces() {
        int f = number(0, 2);
        int place = number(0, 3);
        switch (random.nextInt(12)) {
            case 0:
            case 1:
            case 2: newLine(f); break;
            case 3:
                if (random.nextInt(4) == 0) {
                    due("clear(" + f + ")", x.clear(f), y.clear(f));
                }
                break;
            case 4:
            case 5:
            case 6:
            case 7: {
                int part = partNumber();
                due("load(" + f + ", " + place + ", " + part + ")", x.load(f, place, part), y.load(f, place, part));
                break;
            }
            case 8: due("unload(" + f + ", " + place + ")", x.unload(f, place), y.unload(f, place)); break;
            default: {
                boolean live = random.nextInt(3) > 0;
                int drift = random.nextInt(3) == 0 ? number(-500, 500) : number(-20, 60);
                due("probe(" + f + ", " + place + ", " + live + ", " + drift + ")",
                        x.probe(f, place, live, drift), y.probe(f, place, live, drift));
                break;
            }
        }
    }

    private void newLine(int f) {
        int op = number(0, 3);
        int a = random.nextInt(4) == 0 ? number(200, 600) : number(200, 11000);
        int b = op == 0 ? number(1, 1000) : random.nextInt(4) == 0 ? number(1, 500) : number(1, 20);
        due("line(" + f + ", " + op + ", " + a + ", " + b + ")", x.line(f, op, a, b), y.line(f, op, a, b));
    }

    private void workFurnaces() {
        int f = number(0, 2);
        switch (random.nextInt(10)) {
            case 0:
            case 1:
            case 2: due("run(" + f + ")", x.run(f), y.run(f)); break;
            case 3:
                if (random.nextInt(3) == 0) {
                    due("stop(" + f + ")", x.stop(f), y.stop(f));
                }
                break;
            case 4: {
                int error = random.nextInt(3) == 0 ? number(-500, 500) : number(-1, 1);
                due("survey(" + f + ", " + error + ")", x.survey(f, error), y.survey(f, error));
                break;
            }
            default: {
                int n = random.nextBoolean() ? number(1, 5) : number(1, 200);
                due("tick(" + n + ")", x.tick(n), y.tick(n));
                break;
            }
        }
    }

    private void askFurnaces() {
        int f = number(0, 2);
        int part = partNumber();
        switch (random.nextInt(3)) {
            case 0: {
                int what = number(0, 6);
                due("about(" + f + ", " + what + ")", x.about(f, what), y.about(f, what));
                break;
            }
            case 1: {
                int run = number(0, y.count(1));
                int what = number(0, 4);
                due("runAt(" + run + ", " + what + ")", x.runAt(run, what), y.runAt(run, what));
                break;
            }
            default: {
                int low = number(0, 400);
                int high = number(200, 1000);
                due("paper(" + part + ", " + low + ", " + high + ")", x.paper(part, low, high), y.paper(part, low, high));
                break;
            }
        }
    }

    private void jobs() {
        switch (random.nextInt(12)) {
            case 0:
                if (random.nextInt(4) == 0) {
                    due("clearJobs()", x.clearJobs(), y.clearJobs());
                }
                break;
            case 1:
            case 2:
            case 3: {
                int time = random.nextInt(3) == 0 ? number(1, 1000) : number(1, 9);
                int when = random.nextInt(3) == 0 ? number(0, 10000) : number(0, 40);
                due("job(" + time + ", " + when + ")", x.job(time, when), y.job(time, when));
                break;
            }
            case 4:
            case 5: due("lateness()", x.lateness(), y.lateness()); break;
            case 6: {
                int what = number(0, 4);
                due("count(" + what + ")", x.count(what), y.count(what));
                break;
            }
            default: {
                int i = number(0, 7);
                due("order(" + i + ")", x.order(i), y.order(i));
                break;
            }
        }
    }
}
