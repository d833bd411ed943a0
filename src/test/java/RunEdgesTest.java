/** Promises 12 to 15 and 17 and the terms of LINES, TICKS, RUNS and SURVEYS, each at its edges. */
public final class RunEdgesTest {
    private static final Check check = new Check();
    private static final int BAD = -2, NO = -3, FULL = -4, NONE = -1;
    private static final int RAMP = 0, SOAK = 1, QUENCH = 2, REST = 3;
    private static final int GAS = 0, ERROR = 1, RUNS = 2, LINE = 3, COUNTED = 4;
    private static final int FURNACE = 0, OVER = 1, WELL = 2, DOUBT = 3, TICKS = 4;

    public static void main(String[] args) {
        runWhatRunsAlready();
        runWithoutLines();
        runWithoutParts();
        hundredRuns();
        noAheadOfFull();
        runFromItsFirstLine();
        oneToTwoHundredTicks();
        ticksOfNone();
        ticksOfThree();
        rampOverWhenGasIsThere();
        rampNotBeyond();
        rampToItsBounds();
        quenchForSoManyTicks();
        restAsItIs();
        linesUpTo500Ticks();
        soakGasBecomesIts();
        soakWithoutLiveProbes();
        soakAtItsSlack();
        soakBehindItsSteps();
        soakByDrift();
        soakByInnermost();
        soakByAllLiveOnes();
        soakNotByError();
        stepsBesideGasAndError();
        behindTheLastLine();
        stopAtWhichLine();
        stopWhatDoesNotRun();
        errorOfASurvey();
        surveyWhileItRuns();
        surveyOfNoRuns();
        surveyLikeTheOldOne();
        surveySinceTheOneBefore();
        surveyOfThatFurnaceAlone();
        surveyOfHundred();
        wellToItsEnd();
        wellByTwoProbes();
        wellByTicksThatCount();
        wellOfOnePart();
        runsThatThereAre();
        whatOfARun();
        ticksOfARun();
        check.end();
    }

    /** A part that stays at its warmth while the gas is less than 1000 off. */
    private static int slowPart(HardShop x) {
        return x.part(1, 1, 1, 1, 0, 0);
    }

    /** A slow part brought to 600. */
    private static int slowPartAt600(HardShop x) {
        int part = slowPart(x);
        x.step(part, 12000, 36);
        x.step(part, 4596, 1);
        check.due("at 600", x.shell(part, 0, 0), 600);
        return part;
    }

    /** Furnace 0 with so many slow parts in places 0, 1, .. and one SOAK, begun. */
    private static HardShop soakOf(int parts, int goal, int ticks) {
        HardShop x = new HardShop();
        for (int place = 0; place < parts; place++) {
            x.load(0, place, slowPart(x));
        }
        x.line(0, SOAK, goal, ticks);
        x.run(0);
        return x;
    }

    private static void runWhatRunsAlready() {
        check.sentence("12: NO: it does");
        HardShop x = new HardShop();
        Bench.restingFurnace(x, 0, 2);
        check.due("first", x.run(0), 0);
        check.due("it RUNS", x.run(0), NO);
        x.tick(1);
        check.due("in its midst", x.run(0), NO);
        check.due("one run", x.count(1), 1);
        check.due("it is as far as before", x.about(0, COUNTED), 1);
        x.tick(1);
        check.due("over", x.run(0), 1);
    }

    private static void runWithoutLines() {
        check.sentence("12: NO: has no LINES");
        HardShop x = new HardShop();
        x.load(0, 3, slowPart(x));
        check.due("none", x.run(0), NO);
        x.line(0, REST, 0, 1);
        check.due("one", x.run(0), 0);
        x.tick(1);
        x.clear(0);
        check.due("none again", x.run(0), NO);
        check.due("no run by it", x.count(1), 1);
        x.line(1, REST, 0, 1);
        check.due("those of another", x.run(0), NO);
    }

    private static void runWithoutParts() {
        check.sentence("12: NO: or no PART");
        for (int place = 0; place <= 3; place++) {
            HardShop x = new HardShop();
            x.line(0, REST, 0, 1);
            check.due("none", x.run(0), NO);
            x.load(0, place, slowPart(x));
            check.due("one in " + place, x.run(0), 0);
            x.tick(1);
            x.unload(0, place);
            check.due("none again", x.run(0), NO);
            x.load(1, place, 0);
            check.due("that of another", x.run(0), NO);
            check.due("no run by it", x.count(1), 1);
        }
    }

    private static void hundredRuns() {
        check.sentence("12: the RUN's number; FULL: 100 RUNS");
        HardShop x = new HardShop();
        Bench.restingFurnace(x, 0, 1);
        Bench.restingFurnace(x, 2, 1);
        check.due("no run", x.count(1), 0);
        check.due("no run 0", x.runAt(0, FURNACE), NONE);
        for (int i = 0; i < 100; i++) {
            check.due("run " + i, x.run(i % 2 * 2), i);
            x.tick(1);
        }
        check.due("100 runs", x.count(1), 100);
        check.due("run 100", x.run(0), FULL);
        check.due("of another", x.run(2), FULL);
        check.due("it does not RUN by it", x.about(0, RUNS), 0);
        check.due("BAD ahead of FULL", x.run(3), BAD);
        check.due("100 runs still", x.count(1), 100);
        check.due("run 99", x.runAt(99, FURNACE), 2);
        check.due("run 98", x.runAt(98, FURNACE), 0);
        check.due("no run 100", x.runAt(100, FURNACE), NONE);
        check.due("papers by the last ones", x.paper(0, 0, 1000) + x.paper(1, 0, 1000), 2);
    }

    private static void noAheadOfFull() {
        check.sentence("the first of: BAD; NO; FULL: of 100 RUNS");
        HardShop x = new HardShop();
        Scenes.hundredRunning(x);
        check.due("it RUNS", x.run(0), NO);
        check.due("another could", x.run(1), FULL);
        check.due("one with nothing", x.run(2), NO);
        x.line(2, REST, 0, 1);
        check.due("one with no part", x.run(2), NO);
        x.clear(1);
        check.due("one with no lines", x.run(1), NO);
    }

    private static void runFromItsFirstLine() {
        check.sentence("12: It RUNS from its first LINE on");
        HardShop x = new HardShop();
        x.load(0, 0, slowPart(x));
        x.line(0, QUENCH, 300, 2);
        x.line(0, QUENCH, 400, 2);
        x.run(0);
        check.due("line 0", x.about(0, LINE), 0);
        check.due("gas not before a tick", x.about(0, GAS), 200);
        x.tick(3);
        x.stop(0);
        x.run(0);
        check.due("line 0 behind a stop", x.about(0, LINE), 0);
        check.due("nothing counted", x.about(0, COUNTED), 0);
        x.tick(1);
        check.due("its gas", x.about(0, GAS), 300);
        check.due("4 ticks", x.tick(3), 0);
        x.run(0);
        check.due("line 0 behind its end", x.about(0, LINE), 0);
    }

    private static void oneToTwoHundredTicks() {
        check.sentence("13: n TICKS (1 .. 200)");
        HardShop x = new HardShop();
        Bench.restingFurnace(x, 0, 500);
        x.run(0);
        check.due("0", x.tick(0), BAD);
        check.due("-1", x.tick(-1), BAD);
        check.due("201", x.tick(201), BAD);
        check.due("none by it", x.runAt(0, TICKS), 0);
        check.due("1", x.tick(1), 1);
        check.due("one by it", x.runAt(0, TICKS), 1);
        check.due("200", x.tick(200), 1);
        check.due("200 by it", x.runAt(0, TICKS), 201);
    }

    private static void ticksOfNone() {
        check.sentence("13: how many RUN still: none");
        HardShop x = new HardShop();
        check.due("a new object", x.tick(200), 0);
        Bench.restingFurnace(x, 0, 1);
        long before = x.digest();
        check.due("none RUNS", x.tick(1), 0);
        check.due("which changes nothing", x.digest(), before);
        int warm = Bench.quickPart(x, 1, 0, 0);
        Bench.bring(x, warm, 900);
        x.load(1, 0, warm);
        x.run(0);
        check.due("another RUNS", x.tick(1), 0);
        check.due("a part in one that does not stays warm", x.shell(warm, 0, 0), 900);
    }

    private static void ticksOfThree() {
        check.sentence("13: of all FURNACES that RUN: how many RUN still");
        HardShop x = new HardShop();
        for (int f = 0; f <= 2; f++) {
            Bench.restingFurnace(x, f, 3 - f);
            x.run(f);
        }
        check.due("three RUN", x.count(2), 3);
        check.due("two still", x.tick(1), 2);
        check.due("one still", x.tick(1), 1);
        check.due("none still", x.tick(1), 0);
        for (int f = 0; f <= 2; f++) {
            check.due("ticks of " + f, x.runAt(f, TICKS), 3 - f);
        }
    }

    /** How many ticks a RAMP takes, from 200 or from a QUENCH at another gas. */
    private static int ticksOfRamp(int from, int goal, int by) {
        HardShop x = new HardShop();
        x.load(0, 0, slowPart(x));
        x.line(0, QUENCH, from, 1);
        x.line(0, RAMP, goal, by);
        x.run(0);
        x.tick(1);
        int ticks = 0;
        while (x.about(0, RUNS) == 1 && ticks < 100) {
            x.tick(1);
            ticks++;
        }
        check.due("gas of a ramp", x.about(0, GAS), goal);
        check.due("ticks of the run", x.runAt(0, TICKS), ticks + 1);
        return ticks;
    }

    private static void rampOverWhenGasIsThere() {
        check.sentence("RAMP: over when GAS is a");
        check.due("there already, up by 1", ticksOfRamp(200, 200, 1), 1);
        check.due("there already, by 1000", ticksOfRamp(900, 900, 1000), 1);
        check.due("one away", ticksOfRamp(500, 501, 1), 1);
        check.due("one below", ticksOfRamp(500, 499, 1), 1);
        check.due("two away", ticksOfRamp(500, 502, 1), 2);
        check.due("1000 away", ticksOfRamp(500, 1500, 1000), 1);
        check.due("1001 away", ticksOfRamp(500, 1501, 1000), 2);
        check.due("1000 below", ticksOfRamp(1500, 500, 1000), 1);
        check.due("1001 below", ticksOfRamp(1501, 500, 1000), 2);
        check.due("300 by 100", ticksOfRamp(500, 800, 100), 3);
        check.due("301 by 100", ticksOfRamp(500, 801, 100), 4);
        check.due("299 by 100", ticksOfRamp(500, 799, 100), 3);
    }

    private static void rampNotBeyond() {
        check.sentence("RAMP: nearer to a by b, not beyond");
        int[][] due = {{500, 1000, 499, 999}, {500, 1000, 500, 1000}, {500, 1000, 501, 1000},
            {1000, 500, 499, 501}, {1000, 500, 500, 500}, {1000, 500, 501, 500}};
        for (int[] of : due) {
            HardShop x = new HardShop();
            x.load(0, 0, slowPart(x));
            x.line(0, QUENCH, of[0], 1);
            x.line(0, RAMP, of[1], of[2]);
            x.line(0, REST, 0, 5);
            x.run(0);
            x.tick(2);
            check.due("gas by " + of[2], x.about(0, GAS), of[3]);
            check.due("line by " + of[2], x.about(0, LINE), of[3] == of[1] ? 2 : 1);
        }
    }

    private static void rampToItsBounds() {
        check.sentence("RAMP to a (200 .. 11000) by b a TICK (1 .. 1000)");
        check.due("all the way up", ticksOfRamp(200, 11000, 1000), 11);
        check.due("all the way down", ticksOfRamp(11000, 200, 1000), 11);
    }

    private static void quenchForSoManyTicks() {
        check.sentence("QUENCH: GAS is a for b TICKS");
        HardShop x = new HardShop();
        x.load(0, 0, slowPart(x));
        x.line(0, QUENCH, 11000, 1);
        x.line(0, QUENCH, 200, 3);
        x.run(0);
        x.tick(1);
        check.due("at once", x.about(0, GAS), 11000);
        check.due("one tick", x.about(0, LINE), 1);
        x.tick(2);
        check.due("at once down", x.about(0, GAS), 200);
        check.due("two of three", x.about(0, LINE), 1);
        check.due("three of three", x.tick(1), 0);
    }

    private static void restAsItIs() {
        check.sentence("REST: b TICKS as it is");
        HardShop x = new HardShop();
        x.load(0, 0, slowPart(x));
        x.line(0, REST, 9000, 1);
        x.line(0, QUENCH, 777, 1);
        x.line(0, REST, 9000, 2);
        x.run(0);
        x.tick(1);
        check.due("as it was", x.about(0, GAS), 200);
        check.due("one tick", x.about(0, LINE), 1);
        x.tick(2);
        check.due("as the line before left it", x.about(0, GAS), 777);
        check.due("one of two", x.about(0, RUNS), 1);
        check.due("two of two", x.tick(1), 0);
        check.due("as it is", x.about(0, GAS), 777);
    }

    private static void linesUpTo500Ticks() {
        check.sentence("b TICKS (1 .. 500): over when b counted");
        for (int op = SOAK; op <= REST; op++) {
            HardShop x = new HardShop();
            x.load(0, 0, slowPart(x));
            x.line(0, op, 200, 500);
            x.line(0, op, 200, 1);
            x.run(0);
            x.tick(200);
            x.tick(200);
            x.tick(99);
            check.due("499 of " + op, x.about(0, COUNTED), 499);
            check.due("line 0 of " + op, x.about(0, LINE), 0);
            x.tick(1);
            check.due("500 of " + op, x.about(0, LINE), 1);
            check.due("none of the next one", x.about(0, COUNTED), 0);
            check.due("1 of " + op, x.tick(1), 0);
        }
    }

    private static void soakGasBecomesIts() {
        check.sentence("SOAK at a: GAS becomes a");
        HardShop x = soakOf(1, 11000, 1);
        check.due("not before a tick", x.about(0, GAS), 200);
        x.tick(1);
        check.due("at once, though none counts", x.about(0, GAS), 11000);
        check.due("none counts", x.about(0, COUNTED), 0);
    }

    private static void soakWithoutLiveProbes() {
        check.sentence("a TICK counts if a PROBE is live; without a PART it is as if LOST");
        HardShop x = soakOf(1, 200, 2);
        x.probe(0, 0, false, 500);
        check.due("live ones without a part", x.tick(200), 1);
        check.due("none counts", x.about(0, COUNTED), 0);
        x.probe(0, 0, true, 0);
        check.due("one live", x.tick(1), 1);
        check.due("one counts", x.about(0, COUNTED), 1);
        x.probe(0, 0, false, 0);
        x.tick(5);
        check.due("what counted stays", x.about(0, COUNTED), 1);
        x.probe(0, 0, true, 0);
        check.due("the other one", x.tick(1), 0);
        check.due("all ticks are of the run", x.runAt(0, TICKS), 207);
    }

    private static void soakAtItsSlack() {
        check.sentence("all live ones tell a - 100 or more");
        int[] goal = {299, 300, 301};
        int[] counted = {1, 1, 0};
        for (int i = 0; i < goal.length; i++) {
            HardShop x = soakOf(1, goal[i], 5);
            x.tick(1);
            check.due("200 told, a " + goal[i], x.about(0, COUNTED), counted[i]);
        }
    }

    private static void soakBehindItsSteps() {
        check.sentence("tell a - 100 or more behind its STEPS");
        int[] goal = {342, 343};
        int[] counted = {1, 0};
        for (int i = 0; i < goal.length; i++) {
            HardShop x = new HardShop();
            x.load(0, 0, Bench.quickPart(x, 1, 0, 0));
            x.line(0, SOAK, goal[i], 5);
            x.run(0);
            x.tick(1);
            check.due("warmth", x.shell(0, 0, 0), 242);
            check.due("a " + goal[i], x.about(0, COUNTED), counted[i]);
        }
    }

    private static void soakByDrift() {
        check.sentence("telling the WARMTH of its PART's innermost SHELL and a DRIFT (-500 .. 500)");
        int[][] due = {{800, 500, 1}, {800, 499, 0}, {801, 500, 0}, {200, -100, 1}, {200, -101, 0}};
        for (int[] of : due) {
            HardShop x = soakOf(1, of[0], 5);
            x.probe(0, 0, true, of[1]);
            x.tick(1);
            check.due("a " + of[0] + ", drift " + of[1], x.about(0, COUNTED), of[2]);
        }
        int[][] below = {{200, -500, 1}, {201, -500, 0}, {201, -499, 1}};
        for (int[] of : below) {
            HardShop x = new HardShop();
            x.load(0, 0, slowPartAt600(x));
            x.probe(0, 0, true, of[1]);
            x.line(0, SOAK, of[0], 5);
            x.run(0);
            x.tick(1);
            check.due("a " + of[0] + ", drift " + of[1], x.about(0, COUNTED), of[2]);
        }
    }

    private static void soakByInnermost() {
        check.sentence("telling the WARMTH of its PART's innermost SHELL");
        HardShop x = new HardShop();
        x.part(3, 1, 1, 300, 0, 0);
        x.load(0, 0, 0);
        x.line(0, SOAK, 301, 1);
        x.line(0, SOAK, 300, 1);
        x.run(0);
        x.tick(40);
        check.that("the outermost is warm enough", x.shell(0, 0, 0) >= 201);
        check.due("the innermost is not", x.shell(0, 2, 0), 200);
        check.due("none counts", x.about(0, LINE), 0);
        x.probe(0, 0, true, 1);
        x.tick(1);
        check.due("with a drift of 1 it counts", x.about(0, LINE), 1);
    }

    private static void soakByAllLiveOnes() {
        check.sentence("and all live ones tell it");
        for (int cold = 0; cold <= 3; cold++) {
            HardShop x = soakOf(4, 300, 9);
            x.tick(1);
            check.due("all four", x.about(0, COUNTED), 1);
            x.probe(0, cold, true, -1);
            x.tick(1);
            check.due("not " + cold, x.about(0, COUNTED), 1);
            x.probe(0, cold, false, -1);
            x.tick(1);
            check.due("it is LOST", x.about(0, COUNTED), 2);
        }
        HardShop x = soakOf(3, 300, 9);
        x.probe(0, 3, true, -500);
        x.tick(1);
        check.due("one without a part is not asked", x.about(0, COUNTED), 1);
    }

    private static void soakNotByError() {
        check.sentence("telling the WARMTH .. and a DRIFT: not the ERROR");
        for (int error = -500; error <= 500; error += 1000) {
            HardShop x = new HardShop();
            x.load(0, 0, slowPart(x));
            x.survey(0, error);
            x.line(0, SOAK, 300, 1);
            x.line(0, SOAK, 301, 1);
            x.run(0);
            x.tick(1);
            check.due("200 at 300, error " + error, x.about(0, LINE), 1);
            x.tick(3);
            check.due("200 at 301, error " + error, x.about(0, COUNTED), 0);
        }
    }

    private static void stepsBesideGasAndError() {
        check.sentence("each PART in it does a STEP beside GAS and ERROR");
        int[][] due = {{200, -500, 50}, {200, 0, 200}, {200, 500, 350}, {11000, -500, 3290}, {11000, 500, 3590}};
        for (int[] of : due) {
            HardShop x = new HardShop();
            x.survey(0, of[1]);
            for (int place = 0; place <= 3; place++) {
                x.load(0, place, Bench.quickPart(x, 1, 0, 0));
            }
            int outside = Bench.quickPart(x, 1, 0, 0);
            x.line(0, QUENCH, of[0], 1);
            x.run(0);
            x.tick(1);
            for (int part = 0; part <= 3; part++) {
                check.due("part " + part + " beside " + of[0] + " and " + of[1], x.shell(part, 0, 0), of[2]);
                check.due("taken", x.taken(part), of[2] - 200);
                check.due("kept", x.kept(part), 0);
            }
            check.due("not one outside", x.shell(outside, 0, 0), 200);
            check.due("gas without the error", x.about(0, GAS), of[0]);
        }
    }

    private static void behindTheLastLine() {
        check.sentence("behind the last LINE it RUNS no more");
        for (int lines = 1; lines <= 8; lines++) {
            HardShop x = new HardShop();
            x.load(0, 0, slowPart(x));
            for (int i = 0; i < lines; i++) {
                x.line(0, REST, 0, 1);
            }
            x.run(0);
            for (int i = 0; i < lines; i++) {
                check.due("line of " + lines, x.about(0, LINE), i);
                check.due("RUNS of " + lines, x.tick(1), i == lines - 1 ? 0 : 1);
            }
            check.due("no line of " + lines, x.about(0, LINE), NONE);
            check.due("over of " + lines, x.runAt(0, OVER), 1);
            x.tick(9);
            check.due("ticks of " + lines, x.runAt(0, TICKS), lines);
        }
    }

    private static void stopAtWhichLine() {
        check.sentence("14: It RUNS no more: the LINE at which it was");
        for (int at = 0; at <= 7; at++) {
            HardShop x = new HardShop();
            x.load(0, 0, slowPart(x));
            for (int i = 0; i < 8; i++) {
                x.line(0, REST, 0, 2);
            }
            x.run(0);
            if (at > 0) {
                x.tick(2 * at);
            }
            check.due("at " + at, x.stop(0), at);
            check.due("it RUNS no more", x.about(0, RUNS), 0);
            check.due("over", x.runAt(0, OVER), 1);
            check.due("not WELL", x.runAt(0, WELL), 0);
            check.due("lines stay", x.about(0, 6), 8);
            check.due("no ticks any more", x.tick(5), 0);
            check.due("ticks", x.runAt(0, TICKS), 2 * at);
        }
    }

    private static void stopWhatDoesNotRun() {
        check.sentence("14: BAD; NO: it does not");
        HardShop x = new HardShop();
        check.due("-1", x.stop(-1), BAD);
        check.due("3", x.stop(3), BAD);
        Bench.restingFurnace(x, 1, 1);
        for (int f = 0; f <= 2; f++) {
            check.due("not begun " + f, x.stop(f), NO);
        }
        x.run(1);
        check.due("0 does not", x.stop(0), NO);
        check.due("2 does not", x.stop(2), NO);
        check.due("1 does", x.stop(1), 0);
        check.due("1 no more", x.stop(1), NO);
        x.run(1);
        x.tick(1);
        check.due("at its end", x.stop(1), NO);
        check.due("it stays WELL", x.runAt(1, WELL), 1);
    }

    private static void errorOfASurvey() {
        check.sentence("15: BAD: ERROR not -500 .. 500");
        HardShop x = new HardShop();
        check.due("-501", x.survey(0, -501), BAD);
        check.due("501", x.survey(0, 501), BAD);
        check.due("none by it", x.about(0, ERROR), 0);
        check.due("-500", x.survey(0, -500), 0);
        check.due("it is told", x.about(0, ERROR), -500);
        check.due("500", x.survey(0, 500), 0);
        check.due("the new one is told", x.about(0, ERROR), 500);
        check.due("not of another", x.about(1, ERROR), 0);
    }

    private static void surveyWhileItRuns() {
        check.sentence("15: NO: it RUNS");
        HardShop x = new HardShop();
        Bench.restingFurnace(x, 0, 2);
        x.run(0);
        check.due("a new error", x.survey(0, 5), NO);
        check.due("the same error", x.survey(0, 0), NO);
        check.due("BAD ahead of NO", x.survey(0, 501), BAD);
        check.due("the error stays", x.about(0, ERROR), 0);
        check.due("no doubt by it", x.count(4), 0);
        check.due("another does not", x.survey(1, 5), 0);
        x.tick(2);
        check.due("no more: the run is since no survey", x.survey(0, 5), 1);
    }

    private static void surveyOfNoRuns() {
        check.sentence("15: how many RUNS are IN DOUBT by it: none");
        HardShop x = new HardShop();
        for (int error = -2; error <= 2; error++) {
            check.due("no runs, " + error, x.survey(0, error), 0);
        }
        check.due("none in doubt", x.count(4), 0);
    }

    private static void runOnce(HardShop x, int furnace) {
        x.run(furnace);
        x.tick(1);
    }

    private static void surveyLikeTheOldOne() {
        check.sentence("if it is unlike the old one");
        HardShop x = new HardShop();
        Bench.restingFurnace(x, 0, 1);
        runOnce(x, 0);
        check.due("0 as at first", x.survey(0, 0), 0);
        check.due("no doubt", x.runAt(0, DOUBT), 0);
        runOnce(x, 0);
        check.due("1 is unlike 0", x.survey(0, 1), 1);
        check.due("doubt", x.runAt(1, DOUBT), 1);
        runOnce(x, 0);
        check.due("1 is like 1", x.survey(0, 1), 0);
        check.due("no doubt", x.runAt(2, DOUBT), 0);
        runOnce(x, 0);
        check.due("-1 is unlike 1", x.survey(0, -1), 1);
        check.due("two in doubt", x.count(4), 2);
    }

    private static void surveySinceTheOneBefore() {
        check.sentence("all RUNS of that FURNACE since its SURVEY before (or ever)");
        HardShop x = new HardShop();
        Bench.restingFurnace(x, 0, 1);
        runOnce(x, 0);
        x.run(0);
        x.stop(0);
        check.due("ever, a stopped one too", x.survey(0, 9), 2);
        check.due("none since", x.survey(0, 8), 0);
        runOnce(x, 0);
        check.due("a refused survey", x.survey(0, 501), BAD);
        check.due("is no survey: one since", x.survey(0, 7), 1);
        runOnce(x, 0);
        check.due("like the old one: a survey", x.survey(0, 7), 0);
        check.due("none since that", x.survey(0, 6), 0);
        for (int run = 0; run < 4; run++) {
            check.due("run " + run, x.runAt(run, DOUBT), run < 3 ? 1 : 0);
        }
        check.due("doubt is not taken back", x.survey(0, 0), 0);
        check.due("three in doubt", x.count(4), 3);
    }

    private static void surveyOfThatFurnaceAlone() {
        check.sentence("all RUNS of that FURNACE");
        HardShop x = new HardShop();
        for (int f = 0; f <= 2; f++) {
            Bench.restingFurnace(x, f, 1);
        }
        int[] of = {0, 1, 2, 1, 0, 1};
        for (int f : of) {
            runOnce(x, f);
        }
        check.due("of 2", x.survey(2, 4), 1);
        check.due("of 1", x.survey(1, 4), 3);
        for (int run = 0; run < of.length; run++) {
            check.due("run " + run, x.runAt(run, DOUBT), of[run] == 0 ? 0 : 1);
        }
        check.due("of 0: not since those of others", x.survey(0, 4), 2);
        check.due("all in doubt", x.count(4), 6);
    }

    private static void surveyOfHundred() {
        check.sentence("15: how many RUNS are IN DOUBT by it: 100");
        HardShop x = new HardShop();
        Scenes.hundred(x);
        check.due("of a furnace without runs", x.survey(1, 5), 0);
        check.due("all", x.survey(0, 5), 100);
        check.due("all in doubt", x.count(4), 100);
        check.due("none since", x.survey(0, 6), 0);
        check.due("the first", x.runAt(0, DOUBT), 1);
        check.due("the last", x.runAt(99, DOUBT), 1);
    }

    private static void wellToItsEnd() {
        check.sentence("WELL: if it went to its end (not STOPPED)");
        HardShop x = soakOf(2, 200, 2);
        check.due("begun", x.runAt(0, WELL), 0);
        x.tick(1);
        check.due("in its midst", x.runAt(0, WELL), 0);
        x.tick(1);
        check.due("at its end", x.runAt(0, WELL), 1);
        x.run(0);
        x.tick(1);
        x.stop(0);
        check.due("stopped a tick before its end", x.runAt(1, WELL), 0);
        check.due("though it is over", x.runAt(1, OVER), 1);
        check.due("the one before stays", x.runAt(0, WELL), 1);
    }

    private static void wellByTwoProbes() {
        check.sentence("no SOAK counted a TICK in which fewer than two PROBES were live");
        for (int parts = 2; parts <= 4; parts++) {
            for (int live = 1; live <= parts; live++) {
                HardShop x = soakOf(parts, 200, 1);
                for (int place = live; place < parts; place++) {
                    x.probe(0, place, false, 0);
                }
                check.due("it counts", x.tick(1), 0);
                check.due(live + " live of " + parts, x.runAt(0, WELL), live >= 2 ? 1 : 0);
            }
        }
        HardShop x = soakOf(2, 200, 3);
        x.tick(1);
        x.probe(0, 0, false, 0);
        x.tick(1);
        x.probe(0, 0, true, 0);
        x.tick(1);
        check.due("one tick of three", x.runAt(0, WELL), 0);
        x.run(0);
        x.tick(3);
        check.due("the run behind it", x.runAt(1, WELL), 1);
        check.due("that one stays", x.runAt(0, WELL), 0);
    }

    private static void wellByTicksThatCount() {
        check.sentence("no SOAK counted a TICK: not of ticks that don't count, nor of other LINES");
        HardShop x = soakOf(2, 300, 2);
        x.probe(0, 0, false, 0);
        x.probe(0, 1, true, -1);
        x.tick(20);
        check.due("none counted by the one that is live", x.about(0, COUNTED), 0);
        x.probe(0, 1, false, 0);
        x.tick(20);
        check.due("none counted by none", x.about(0, COUNTED), 0);
        x.probe(0, 0, true, 0);
        x.probe(0, 1, true, 0);
        check.due("both", x.tick(2), 0);
        check.due("WELL", x.runAt(0, WELL), 1);
        x.clear(0);
        x.probe(0, 0, false, 0);
        x.line(0, QUENCH, 300, 1);
        x.line(0, REST, 0, 1);
        x.line(0, RAMP, 301, 1);
        x.run(0);
        check.due("no SOAK", x.tick(3), 0);
        check.due("WELL without a SOAK", x.runAt(1, WELL), 1);
    }

    private static void wellOfOnePart() {
        check.sentence("but for SOAKS of a load of one PART");
        for (int place = 0; place <= 3; place++) {
            HardShop x = new HardShop();
            x.load(0, place, slowPart(x));
            x.line(0, SOAK, 200, 1);
            x.run(0);
            x.tick(1);
            check.due("one part in " + place, x.runAt(0, WELL), 1);
            x.load(0, (place + 1) % 4, slowPart(x));
            x.probe(0, (place + 1) % 4, false, 0);
            x.run(0);
            x.tick(1);
            check.due("two parts, one probe", x.runAt(1, WELL), 0);
            x.unload(0, (place + 1) % 4);
            x.run(0);
            x.tick(1);
            check.due("one part again", x.runAt(2, WELL), 1);
        }
    }

    private static void runsThatThereAre() {
        check.sentence("17: NONE: not so many. BAD");
        HardShop x = new HardShop();
        check.due("no run 0", x.runAt(0, 0), NONE);
        Bench.restingFurnace(x, 2, 1);
        runOnce(x, 2);
        x.run(2);
        check.due("run 0", x.runAt(0, FURNACE), 2);
        check.due("run 1", x.runAt(1, FURNACE), 2);
        for (int what = 0; what <= 4; what++) {
            check.due("no run 2", x.runAt(2, what), NONE);
        }
        check.due("no run 100", x.runAt(100, 0), NONE);
        check.due("run -1", x.runAt(-1, 0), BAD);
    }

    private static void whatOfARun() {
        check.sentence("17: Of a RUN: 0 .. 4. BAD");
        HardShop x = new HardShop();
        Bench.restingFurnace(x, 2, 3);
        x.run(2);
        x.tick(3);
        x.survey(2, 1);
        int[] due = {2, 1, 1, 1, 3};
        for (int what = 0; what <= 4; what++) {
            check.due("what " + what, x.runAt(0, what), due[what]);
        }
        check.due("what -1", x.runAt(0, -1), BAD);
        check.due("what 5", x.runAt(0, 5), BAD);
        check.due("BAD ahead of NONE", x.runAt(1, 5), BAD);
    }

    private static void ticksOfARun() {
        check.sentence("17: 4 TICKS it took so far");
        HardShop x = new HardShop();
        Bench.restingFurnace(x, 0, 500);
        x.run(0);
        check.due("none yet", x.runAt(0, TICKS), 0);
        x.tick(200);
        x.tick(200);
        check.due("so far", x.runAt(0, TICKS), 400);
        x.tick(200);
        check.due("500 and no more", x.runAt(0, TICKS), 500);
        x.run(0);
        x.tick(7);
        check.due("the next one's own", x.runAt(1, TICKS), 7);
        check.due("the first one's stay", x.runAt(0, TICKS), 500);
    }
}
