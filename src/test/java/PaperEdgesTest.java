/** Promise 18 and the terms of a PAPER: each reason beside the last case in which it does not hold, and which goes first. */
public final class PaperEdgesTest {
    private static final Check check = new Check();
    private static final int BAD = -2;
    private static final int GIVEN = 1, NO_RUN = -10, DOUBT = -11, NOT_WELL = -12, NOT_HARD = -13, NOT_COLD = -14;
    private static final int SOAK = 1, QUENCH = 2, REST = 3;

    public static void main(String[] args) {
        ofWhichPart();
        lowAboveHigh();
        inNoRun();
        latestRun();
        asItBegins();
        runInDoubt();
        runNotOver();
        runNotWell();
        hardnessAtItsBounds();
        hardnessOfShell0();
        warmthAbove500();
        warmthOfShell0();
        theFirstOf();
        check.end();
    }

    private static HardShop afterRest() {
        HardShop x = new HardShop();
        Bench.restingFurnace(x, 0, 1);
        x.run(0);
        x.tick(1);
        return x;
    }

    private static void ofWhichPart() {
        check.sentence("18: BAD");
        HardShop x = new HardShop();
        check.due("no part 0", x.paper(0, 0, 1000), BAD);
        for (int part = 0; part < 12; part++) {
            Bench.quickPart(x, 1, 0, 0);
            check.due("part " + part, x.paper(part, 0, 1000), NO_RUN);
            check.due("no part behind it", x.paper(part + 1, 0, 1000), BAD);
        }
        check.due("part -1", x.paper(-1, 0, 1000), BAD);
    }

    private static void lowAboveHigh() {
        check.sentence("18: BAD: also low above high");
        HardShop x = afterRest();
        check.due("251, 250", x.paper(0, 251, 250), BAD);
        check.due("250, 250", x.paper(0, 250, 250), GIVEN);
        check.due("249, 250", x.paper(0, 249, 250), GIVEN);
        check.due("1, -1", x.paper(0, 1, -1), BAD);
        check.due("-1, -1", x.paper(0, -1, -1), NOT_HARD);
        check.due("all numbers", x.paper(0, Integer.MIN_VALUE, Integer.MAX_VALUE), GIVEN);
        check.due("the other way", x.paper(0, Integer.MAX_VALUE, Integer.MIN_VALUE), BAD);
        check.due("the least alone", x.paper(0, Integer.MIN_VALUE, Integer.MIN_VALUE), NOT_HARD);
        check.due("the most alone", x.paper(0, Integer.MAX_VALUE, Integer.MAX_VALUE), NOT_HARD);
    }

    private static void inNoRun() {
        check.sentence("-10 it was in no RUN");
        HardShop x = new HardShop();
        int part = Bench.restingFurnace(x, 0, 1);
        int other = Bench.quickPart(x, 1, 0, 0);
        check.due("loaded alone", x.paper(part, 0, 1000), NO_RUN);
        x.run(0);
        x.tick(1);
        check.due("in one", x.paper(part, 0, 1000), GIVEN);
        check.due("the other in none", x.paper(other, 0, 1000), NO_RUN);
        x.load(0, 1, other);
        check.due("loaded behind it", x.paper(other, 0, 1000), NO_RUN);
    }

    private static void latestRun() {
        check.sentence("kept with each PART that is in it (the latest one of a PART)");
        HardShop x = afterRest();
        x.run(0);
        x.stop(0);
        check.due("the latest was STOPPED", x.paper(0, 0, 1000), NOT_WELL);
        x.run(0);
        x.tick(1);
        check.due("the latest is WELL", x.paper(0, 0, 1000), GIVEN);
        x.unload(0, 0);
        x.load(2, 3, 0);
        x.line(2, QUENCH, 200, 1);
        x.run(2);
        check.due("the latest of another furnace", x.paper(0, 0, 1000), NOT_WELL);
        x.tick(1);
        x.survey(0, 1);
        check.due("doubt of the ones before", x.paper(0, 0, 1000), GIVEN);
        x.survey(2, 1);
        check.due("doubt of the latest", x.paper(0, 0, 1000), DOUBT);
    }

    private static void asItBegins() {
        check.sentence("kept with each PART that is in it as it begins");
        HardShop x = new HardShop();
        for (int place = 0; place <= 3; place++) {
            x.load(0, place, Bench.quickPart(x, 1, 0, 0));
        }
        int outside = Bench.quickPart(x, 1, 0, 0);
        x.line(0, REST, 0, 1);
        x.run(0);
        for (int part = 0; part <= 3; part++) {
            check.due("part " + part, x.paper(part, 0, 1000), NOT_WELL);
        }
        check.due("one outside", x.paper(outside, 0, 1000), NO_RUN);
        x.tick(1);
        x.unload(0, 2);
        x.run(0);
        check.due("one that went out keeps its own", x.paper(2, 0, 1000), GIVEN);
        check.due("one that is in has the new one", x.paper(3, 0, 1000), NOT_WELL);
    }

    private static void runInDoubt() {
        check.sentence("-11 its RUN is IN DOUBT");
        HardShop x = afterRest();
        x.survey(0, 0);
        check.due("a survey like the old one", x.paper(0, 0, 1000), GIVEN);
        x.run(0);
        x.tick(1);
        x.survey(0, 1);
        check.due("one unlike it", x.paper(0, 0, 1000), DOUBT);
        x.survey(0, 0);
        check.due("doubt stays", x.paper(0, 0, 1000), DOUBT);
        x.run(0);
        x.tick(1);
        check.due("a new run", x.paper(0, 0, 1000), GIVEN);
    }

    private static void runNotOver() {
        check.sentence("-12 not over");
        HardShop x = new HardShop();
        Bench.restingFurnace(x, 0, 2);
        x.run(0);
        check.due("begun", x.paper(0, 0, 1000), NOT_WELL);
        x.tick(1);
        check.due("a tick before its end", x.paper(0, 0, 1000), NOT_WELL);
        x.tick(1);
        check.due("at its end", x.paper(0, 0, 1000), GIVEN);
    }

    private static void runNotWell() {
        check.sentence("-12 not WELL");
        HardShop x = new HardShop();
        x.load(0, 0, Bench.quickPart(x, 1, 0, 0));
        x.load(0, 1, Bench.quickPart(x, 1, 0, 0));
        x.line(0, SOAK, 200, 1);
        x.run(0);
        x.tick(1);
        check.due("two probes", x.paper(0, 0, 1000), GIVEN);
        x.probe(0, 1, false, 0);
        x.run(0);
        x.tick(1);
        check.due("one probe", x.paper(0, 0, 1000), NOT_WELL);
        check.due("one probe, the other part", x.paper(1, 0, 1000), NOT_WELL);
        x.probe(0, 1, true, 0);
        x.run(0);
        x.stop(0);
        check.due("STOPPED", x.paper(0, 0, 1000), NOT_WELL);
    }

    private static void hardnessAtItsBounds() {
        check.sentence("-13 HARDNESS of SHELL 0 is not low .. high");
        HardShop x = afterRest();
        check.due("HARDNESS", x.shell(0, 0, 6), 250);
        check.due("low 250", x.paper(0, 250, 1000), GIVEN);
        check.due("low 251", x.paper(0, 251, 1000), NOT_HARD);
        check.due("high 250", x.paper(0, 0, 250), GIVEN);
        check.due("high 249", x.paper(0, 0, 249), NOT_HARD);
    }

    private static void hardnessOfShell0() {
        check.sentence("HARDNESS of SHELL 0");
        HardShop x = new HardShop();
        x.part(2, 1, 1, 300, 0, 0);
        x.load(0, 0, 0);
        x.line(0, QUENCH, 11000, 9);
        x.line(0, QUENCH, 200, 19);
        x.run(0);
        x.tick(28);
        int outer = x.shell(0, 0, 6);
        check.due("the innermost", x.shell(0, 1, 6), 250);
        check.that("the outermost is harder", outer > 251);
        check.due("by the outermost", x.paper(0, outer, outer), GIVEN);
        check.due("not by the innermost", x.paper(0, 250, 250), NOT_HARD);
    }

    private static void warmthAbove500() {
        check.sentence("-14 its WARMTH there is above 500");
        int[] warmth = {499, 500, 501};
        for (int w : warmth) {
            HardShop x = afterRest();
            x.unload(0, 0);
            Bench.bring(x, 0, w);
            check.due("at " + w, x.paper(0, 0, 1000), w > 500 ? NOT_COLD : GIVEN);
        }
    }

    private static void warmthOfShell0() {
        check.sentence("its WARMTH there: of SHELL 0");
        HardShop x = new HardShop();
        x.part(2, 1, 300, 300, 0, 0);
        x.load(0, 0, 0);
        x.line(0, REST, 0, 1);
        x.run(0);
        x.tick(1);
        x.unload(0, 0);
        x.step(0, 1300, 1);
        check.that("the outermost above, the innermost not", x.shell(0, 0, 0) > 500 && x.shell(0, 1, 0) <= 500);
        check.due("by the outermost", x.paper(0, 0, 1000), NOT_COLD);
        x.step(0, 1300, 4);
        x.step(0, -1000, 1);
        check.that("the innermost above, the outermost not", x.shell(0, 0, 0) <= 500 && x.shell(0, 1, 0) > 500);
        check.due("not by the innermost", x.paper(0, 0, 1000), GIVEN);
    }

    private static void theFirstOf() {
        check.sentence("given (1), or the first of");
        HardShop x = new HardShop();
        int part = Bench.restingFurnace(x, 0, 2);
        x.unload(0, 0);
        Bench.bring(x, part, 900);
        check.due("BAD ahead of all", x.paper(part, 1, 0), BAD);
        check.due("-10 ahead of -13 and -14", x.paper(part, 0, 1), NO_RUN);
        x.load(0, 0, part);
        x.run(0);
        check.due("-12 ahead of -13 and -14", x.paper(part, 0, 1), NOT_WELL);
        x.stop(0);
        x.survey(0, 1);
        check.due("-11 ahead of -12, -13 and -14", x.paper(part, 0, 1), DOUBT);
        x.run(0);
        x.tick(2);
        x.unload(0, 0);
        Bench.bring(x, part, 501);
        check.due("-13 ahead of -14", x.paper(part, 0, 1), NOT_HARD);
        check.due("-14", x.paper(part, 0, 1000), NOT_COLD);
        Bench.bring(x, part, 500);
        check.due("-13 alone", x.paper(part, 0, 1), NOT_HARD);
        check.due("given", x.paper(part, 0, 1000), GIVEN);
    }
}
