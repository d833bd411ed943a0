/** Promises 12 to 15 and 17: run, tick, stop, survey, runAt. */
public final class RunsTest {
    private static final Check check = new Check();
    private static final int RAMP = 0, SOAK = 1, QUENCH = 2, REST = 3;
    private static final int GAS = 0, ERROR = 1, RUNS = 2, LINE = 3, COUNTED = 4;
    private static final int FURNACE = 0, OVER = 1, WELL = 2, DOUBT = 3, TICKS = 4;

    public static void main(String[] args) {
        runRefusals();
        runNumbers();
        hundredRuns();
        tickRefusals();
        ramps();
        rampAlreadyThere();
        quenchAndRest();
        soakCountsByProbes();
        soakSlack();
        soakAllLiveMustTell();
        soakByInnermost();
        errorWarmsParts();
        ticksOfAll();
        runsAgainFromFirstLine();
        stopping();
        wellToItsEnd();
        wellNeedsTwoProbes();
        wellOfOnePart();
        surveyRefusals();
        surveyDoubts();
        surveySince();
        runAtRefusals();
        check.end();
    }

    private static void runRefusals() {
        HardShop x = new HardShop();
        check.due("furnace -1", x.run(-1), HardShop.BAD);
        check.due("furnace 3", x.run(3), HardShop.BAD);
        check.due("nothing", x.run(0), HardShop.NO);
        x.line(0, REST, 0, 5);
        check.due("no part", x.run(0), HardShop.NO);
        x.part(1, 1, 1, 1, 0, 0);
        x.load(1, 3, 0);
        check.due("no lines", x.run(1), HardShop.NO);
        check.due("no runs by it", x.count(1), 0);
        x.line(1, REST, 0, 5);
        check.due("both", x.run(1), 0);
        check.due("it does", x.run(1), HardShop.NO);
        check.due("one run by it", x.count(1), 1);
    }

    private static void runNumbers() {
        HardShop x = new HardShop();
        for (int f = 0; f < 3; f++) {
            Bench.restingFurnace(x, f, f + 1);
        }
        check.due("run 0", x.run(2), 0);
        check.due("run 1", x.run(0), 1);
        x.tick(1);
        check.due("run 2", x.run(0), 2);
        check.due("run 3", x.run(1), 3);
        check.due("furnace of 0", x.runAt(0, FURNACE), 2);
        check.due("furnace of 1", x.runAt(1, FURNACE), 0);
        check.due("furnace of 2", x.runAt(2, FURNACE), 0);
        check.due("furnace of 3", x.runAt(3, FURNACE), 1);
    }

    private static void hundredRuns() {
        HardShop x = new HardShop();
        Bench.restingFurnace(x, 0, 1);
        for (int i = 0; i < 100; i++) {
            check.due("run " + i, x.run(0), i);
            if (i == 99) {
                check.due("NO ahead of FULL", x.run(0), HardShop.NO);
            }
            check.due("tick", x.tick(1), 0);
        }
        check.due("run 100", x.run(0), HardShop.FULL);
        check.due("not RUNNING by it", x.about(0, RUNS), 0);
        check.due("NO of another", x.run(1), HardShop.NO);
        check.due("100 runs", x.count(1), 100);
        check.due("last run", x.runAt(99, OVER), 1);
        check.due("no run 100", x.runAt(100, OVER), HardShop.NONE);
        check.due("survey doubts them all", x.survey(0, 1), 100);
        check.due("100 in doubt", x.count(4), 100);
    }

    private static void tickRefusals() {
        HardShop x = new HardShop();
        Bench.restingFurnace(x, 0, 500);
        x.run(0);
        check.due("0 ticks", x.tick(0), HardShop.BAD);
        check.due("-1 ticks", x.tick(-1), HardShop.BAD);
        check.due("201 ticks", x.tick(201), HardShop.BAD);
        check.due("refused ticks change nothing", x.runAt(0, TICKS), 0);
        check.due("200 ticks", x.tick(200), 1);
        check.due("1 tick", x.tick(1), 1);
        check.due("201 in all", x.about(0, COUNTED), 201);
        check.due("201 of the run", x.runAt(0, TICKS), 201);
    }

    private static void ramps() {
        HardShop x = new HardShop();
        int part = Bench.quickPart(x, 1, 0, 0);
        x.load(0, 0, part);
        x.line(0, RAMP, 1000, 300);
        x.line(0, RAMP, 350, 500);
        x.run(0);
        x.tick(1);
        check.due("nearer by 300", x.about(0, GAS), 500);
        check.due("the part steps beside the new gas", x.shell(part, 0, 0), 290);
        x.tick(1);
        check.due("by 300 more", x.about(0, GAS), 800);
        check.due("line 0 still", x.about(0, LINE), 0);
        x.tick(1);
        check.due("not beyond", x.about(0, GAS), 1000);
        check.due("line 1", x.about(0, LINE), 1);
        x.tick(1);
        check.due("down by 500", x.about(0, GAS), 500);
        check.due("still running", x.about(0, RUNS), 1);
        check.due("over", x.tick(1), 0);
        check.due("down, not beyond", x.about(0, GAS), 350);
        check.due("5 ticks", x.runAt(0, TICKS), 5);
        x.tick(9);
        check.due("no ticks when over", x.runAt(0, TICKS), 5);
    }

    private static void rampAlreadyThere() {
        HardShop x = new HardShop();
        int part = Bench.quickPart(x, 1, 0, 0);
        x.load(0, 0, part);
        x.line(0, RAMP, 200, 1);
        x.line(0, RAMP, 201, 1);
        x.run(0);
        x.tick(1);
        check.due("a line a tick", x.about(0, LINE), 1);
        check.due("gas as it was", x.about(0, GAS), 200);
        check.due("over", x.tick(1), 0);
        check.due("gas 201", x.about(0, GAS), 201);
    }

    private static void quenchAndRest() {
        HardShop x = new HardShop();
        int part = Bench.quickPart(x, 1, 0, 0);
        x.load(0, 0, part);
        x.line(0, QUENCH, 1200, 2);
        x.line(0, REST, 9000, 3);
        x.line(0, QUENCH, 300, 1);
        x.run(0);
        x.tick(1);
        check.due("gas of the quench", x.about(0, GAS), 1200);
        check.due("warmth of the quench", x.shell(part, 0, 0), 500);
        check.due("1 tick counted", x.about(0, COUNTED), 1);
        x.tick(1);
        check.due("line 1", x.about(0, LINE), 1);
        check.due("counted anew", x.about(0, COUNTED), 0);
        x.tick(2);
        check.due("gas as it is", x.about(0, GAS), 1200);
        check.due("2 ticks counted", x.about(0, COUNTED), 2);
        x.tick(1);
        check.due("line 2", x.about(0, LINE), 2);
        check.due("over", x.tick(1), 0);
        check.due("gas of the last", x.about(0, GAS), 300);
        check.due("nothing counted when over", x.about(0, COUNTED), 0);
        check.due("no line when over", x.about(0, LINE), HardShop.NONE);
    }

    private static HardShop soakOf(int parts, int goal, int ticks) {
        HardShop x = new HardShop();
        for (int i = 0; i < parts; i++) {
            x.load(0, i, Bench.quickPart(x, 1, 0, 0));
        }
        x.line(0, SOAK, goal, ticks);
        x.run(0);
        return x;
    }

    private static void soakCountsByProbes() {
        HardShop x = soakOf(2, 200, 10);
        x.tick(1);
        check.due("counts at once", x.about(0, COUNTED), 1);
        x.probe(0, 0, false, 0);
        x.tick(1);
        check.due("counts by the other", x.about(0, COUNTED), 2);
        x.probe(0, 1, false, 0);
        x.tick(3);
        check.due("not without a live one", x.about(0, COUNTED), 2);
        check.due("but the ticks are taken", x.runAt(0, TICKS), 5);
        x.probe(0, 3, true, 0);
        x.tick(3);
        check.due("not by one without a part", x.about(0, COUNTED), 2);
        x.probe(0, 1, true, 0);
        check.due("7 more", x.tick(7), 1);
        check.due("9 counted", x.about(0, COUNTED), 9);
        check.due("10 counted", x.tick(1), 0);
    }

    private static void soakSlack() {
        HardShop x = soakOf(1, 1000, 50);
        x.tick(1);
        check.due("gas becomes a", x.about(0, GAS), 1000);
        check.due("440 is not enough", x.about(0, COUNTED), 0);
        x.tick(40);
        check.due("at last 997", x.shell(0, 0, 0), 997);
        int counted = x.about(0, COUNTED);
        x.probe(0, 0, true, -97);
        x.tick(1);
        check.due("900 is enough", x.about(0, COUNTED), counted + 1);
        x.probe(0, 0, true, -98);
        x.tick(1);
        check.due("899 is not", x.about(0, COUNTED), counted + 1);
        soakCountsBehindSteps();
    }

    private static void soakCountsBehindSteps() {
        HardShop x = new HardShop();
        int part = Bench.quickPart(x, 1, 0, 0);
        Bench.bring(x, part, 858);
        x.load(0, 0, part);
        x.line(0, SOAK, 1000, 5);
        x.run(0);
        x.tick(1);
        check.due("900 behind the step", x.shell(part, 0, 0), 900);
        check.due("counts by what is behind the step", x.about(0, COUNTED), 1);
    }

    private static void soakAllLiveMustTell() {
        HardShop x = soakOf(3, 200, 20);
        x.probe(0, 2, true, -101);
        x.tick(2);
        check.due("one of three tells too little", x.about(0, COUNTED), 0);
        x.probe(0, 2, true, -100);
        x.tick(2);
        check.due("100 less is enough", x.about(0, COUNTED), 2);
        x.probe(0, 0, true, -500);
        x.tick(2);
        check.due("the first tells too little", x.about(0, COUNTED), 2);
        x.probe(0, 0, false, -500);
        x.tick(2);
        check.due("a lost one is not asked", x.about(0, COUNTED), 4);
        x.probe(0, 3, true, -500);
        x.tick(2);
        check.due("one without a part is not asked", x.about(0, COUNTED), 6);
    }

    private static void soakByInnermost() {
        HardShop x = new HardShop();
        x.part(2, 1, 1, 300, 0, 0);
        x.load(0, 0, 0);
        x.line(0, SOAK, 1000, 5);
        x.run(0);
        x.tick(30);
        check.that("the outermost is warm", x.shell(0, 0, 0) > 950);
        check.due("the innermost tells", x.about(0, COUNTED), 0);
    }

    private static void errorWarmsParts() {
        HardShop x = new HardShop();
        int part = Bench.quickPart(x, 1, 0, 0);
        x.survey(0, -100);
        x.load(0, 0, part);
        x.line(0, QUENCH, 1300, 2);
        x.run(0);
        x.tick(1);
        check.due("gas without the error", x.about(0, GAS), 1300);
        check.due("warmth by both", x.shell(part, 0, 0), 500);
        check.due("taken by both", x.taken(part), 300);
        check.due("kept", x.kept(part), 0);
    }

    private static void ticksOfAll() {
        HardShop x = new HardShop();
        for (int f = 0; f < 3; f++) {
            Bench.restingFurnace(x, f, 2 * f + 1);
        }
        x.run(0);
        x.run(2);
        check.due("two running", x.count(2), 2);
        check.due("one still", x.tick(1), 1);
        check.due("the idle one has no ticks", x.about(1, COUNTED), 0);
        x.run(1);
        check.due("two still", x.tick(2), 2);
        check.due("none still", x.tick(100), 0);
        check.due("ticks of 0", x.runAt(0, TICKS), 1);
        check.due("ticks of 1", x.runAt(1, TICKS), 5);
        check.due("ticks of 2", x.runAt(2, TICKS), 3);
    }

    private static void runsAgainFromFirstLine() {
        HardShop x = new HardShop();
        int part = Bench.quickPart(x, 1, 0, 0);
        x.load(0, 0, part);
        x.line(0, REST, 0, 2);
        x.line(0, QUENCH, 500, 3);
        x.run(0);
        x.tick(4);
        x.stop(0);
        check.due("again", x.run(0), 1);
        check.due("first line", x.about(0, LINE), 0);
        check.due("nothing counted", x.about(0, COUNTED), 0);
        check.due("gas as it was", x.about(0, GAS), 500);
        check.due("4 ticks", x.tick(4), 1);
        check.due("5 ticks", x.tick(1), 0);
        check.due("second run", x.runAt(1, TICKS), 5);
        check.due("first run", x.runAt(0, TICKS), 4);
        check.due("second went to its end", x.runAt(1, WELL), 1);
        check.due("first did not", x.runAt(0, WELL), 0);
    }

    private static void stopping() {
        HardShop x = new HardShop();
        check.due("furnace -1", x.stop(-1), HardShop.BAD);
        check.due("furnace 3", x.stop(3), HardShop.BAD);
        check.due("it does not", x.stop(0), HardShop.NO);
        Bench.restingFurnace(x, 0, 2);
        x.line(0, REST, 0, 2);
        x.run(0);
        check.due("not another", x.stop(1), HardShop.NO);
        check.due("at line 0", x.stop(0), 0);
        check.due("no more", x.stop(0), HardShop.NO);
        check.due("over", x.runAt(0, OVER), 1);
        check.due("not well", x.runAt(0, WELL), 0);
        check.due("none running", x.count(2), 0);
        x.run(0);
        x.tick(3);
        check.due("at line 1", x.stop(0), 1);
        x.tick(5);
        check.due("no ticks behind it", x.runAt(1, TICKS), 3);
        x.run(0);
        x.tick(4);
        check.due("it went to its end", x.stop(0), HardShop.NO);
        check.due("and is well", x.runAt(2, WELL), 1);
    }

    private static void wellToItsEnd() {
        HardShop x = soakOf(2, 200, 3);
        check.due("not over", x.runAt(0, OVER), 0);
        check.due("not well yet", x.runAt(0, WELL), 0);
        x.tick(2);
        check.due("not over still", x.runAt(0, OVER), 0);
        check.due("not well still", x.runAt(0, WELL), 0);
        x.tick(1);
        check.due("over", x.runAt(0, OVER), 1);
        check.due("well", x.runAt(0, WELL), 1);
        check.due("no doubt", x.runAt(0, DOUBT), 0);
    }

    private static void wellNeedsTwoProbes() {
        HardShop x = soakOf(3, 200, 3);
        x.probe(0, 0, false, 0);
        x.tick(3);
        check.due("two of three are enough", x.runAt(0, WELL), 1);
        x.run(0);
        x.tick(1);
        x.probe(0, 1, false, 0);
        x.tick(1);
        x.probe(0, 1, true, 0);
        x.tick(1);
        check.due("over", x.runAt(1, OVER), 1);
        check.due("one tick counted by one", x.runAt(1, WELL), 0);
        x.run(0);
        x.probe(0, 1, false, 0);
        x.probe(0, 2, true, -500);
        x.tick(5);
        x.probe(0, 2, false, 0);
        x.tick(5);
        x.probe(0, 1, true, 0);
        x.probe(0, 2, true, 0);
        x.tick(3);
        check.due("ticks that don't count do no harm", x.runAt(2, WELL), 1);
        check.due("13 ticks of it", x.runAt(2, TICKS), 13);
        otherLinesNeedNone();
    }

    private static void otherLinesNeedNone() {
        HardShop x = new HardShop();
        for (int place = 0; place < 4; place++) {
            x.load(0, place, Bench.quickPart(x, 1, 0, 0));
            x.probe(0, place, false, 0);
        }
        x.line(0, RAMP, 500, 100);
        x.line(0, QUENCH, 300, 2);
        x.line(0, REST, 0, 2);
        x.run(0);
        x.tick(20);
        check.due("well without probes and soaks", x.runAt(0, WELL), 1);
    }

    private static void wellOfOnePart() {
        HardShop x = soakOf(1, 200, 3);
        x.tick(3);
        check.due("one part, one probe", x.runAt(0, WELL), 1);
        HardShop y = soakOf(2, 200, 3);
        y.probe(0, 1, false, 0);
        y.tick(3);
        check.due("two parts, one probe", y.runAt(0, WELL), 0);
    }

    private static void surveyRefusals() {
        HardShop x = new HardShop();
        check.due("furnace -1", x.survey(-1, 0), HardShop.BAD);
        check.due("furnace 3", x.survey(3, 0), HardShop.BAD);
        check.due("error -501", x.survey(0, -501), HardShop.BAD);
        check.due("error 501", x.survey(0, 501), HardShop.BAD);
        check.due("refused surveys change nothing", x.about(0, ERROR), 0);
        check.due("error -500", x.survey(0, -500), 0);
        check.due("it is told", x.about(0, ERROR), -500);
        check.due("error 500", x.survey(0, 500), 0);
        check.due("it is told", x.about(0, ERROR), 500);
        check.due("not of another", x.about(1, ERROR), 0);
        Bench.restingFurnace(x, 0, 3);
        x.run(0);
        check.due("it RUNS", x.survey(0, 1), HardShop.NO);
        check.due("BAD ahead of NO", x.survey(0, 501), HardShop.BAD);
        check.due("the error stays", x.about(0, ERROR), 500);
        check.due("another does not", x.survey(1, 1), 0);
    }

    private static void runOnce(HardShop x, int furnace) {
        x.run(furnace);
        x.tick(1);
    }

    private static void surveyDoubts() {
        HardShop x = new HardShop();
        Bench.restingFurnace(x, 0, 1);
        Bench.restingFurnace(x, 1, 1);
        runOnce(x, 0);
        runOnce(x, 1);
        runOnce(x, 0);
        check.due("two of furnace 0", x.survey(0, -7), 2);
        check.due("run 0 in doubt", x.runAt(0, DOUBT), 1);
        check.due("run 1 not", x.runAt(1, DOUBT), 0);
        check.due("run 2 in doubt", x.runAt(2, DOUBT), 1);
        check.due("two in doubt", x.count(4), 2);
        check.due("still well", x.runAt(0, WELL), 1);
        check.due("none since", x.survey(0, 7), 0);
        check.due("two in doubt still", x.count(4), 2);
        check.due("one of furnace 1", x.survey(1, 3), 1);
        check.due("three in doubt", x.count(4), 3);
    }

    private static void surveySince() {
        HardShop x = new HardShop();
        Bench.restingFurnace(x, 0, 1);
        runOnce(x, 0);
        check.due("like the old one", x.survey(0, 0), 0);
        check.due("no doubt by it", x.runAt(0, DOUBT), 0);
        runOnce(x, 0);
        runOnce(x, 0);
        check.due("only since the survey before", x.survey(0, 5), 2);
        check.due("run 0 not", x.runAt(0, DOUBT), 0);
        check.due("run 1", x.runAt(1, DOUBT), 1);
        check.due("run 2", x.runAt(2, DOUBT), 1);
        runOnce(x, 0);
        check.due("a refused survey", x.survey(0, 999), HardShop.BAD);
        check.due("is none", x.survey(0, 6), 1);
        x.run(0);
        x.stop(0);
        check.due("a stopped run too", x.survey(0, 0), 1);
    }

    private static void runAtRefusals() {
        HardShop x = new HardShop();
        check.due("none yet", x.runAt(0, 0), HardShop.NONE);
        Bench.restingFurnace(x, 0, 1);
        x.run(0);
        check.due("run 1", x.runAt(1, 0), HardShop.NONE);
        check.due("run far above", x.runAt(Integer.MAX_VALUE, 4), HardShop.NONE);
        check.due("run -1", x.runAt(-1, 0), HardShop.BAD);
        check.due("what -1", x.runAt(0, -1), HardShop.BAD);
        check.due("what 5", x.runAt(0, 5), HardShop.BAD);
        check.due("BAD ahead of NONE", x.runAt(1, 5), HardShop.BAD);
        check.due("what 4", x.runAt(0, 4), 0);
    }
}
