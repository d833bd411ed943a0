/** Promise 18: paper. */
public final class PapersTest {
    private static final Check check = new Check();
    private static final int SOAK = 1, QUENCH = 2, REST = 3;
    private static final int WARMTH = 0, HARDNESS = 6;

    public static void main(String[] args) {
        refusals();
        given();
        noRun();
        inDoubt();
        notWell();
        hardnessOutside();
        tooWarm();
        firstReasonFirst();
        latestRunCounts();
        onlyPartsInIt();
        outermostShellCounts();
        check.end();
    }

    private static void refusals() {
        HardShop x = new HardShop();
        check.due("no part", x.paper(0, 0, 1000), HardShop.BAD);
        Bench.quickPart(x, 1, 0, 0);
        check.due("part -1", x.paper(-1, 0, 1000), HardShop.BAD);
        check.due("part 1", x.paper(1, 0, 1000), HardShop.BAD);
        check.due("low above high", x.paper(0, 251, 250), HardShop.BAD);
        check.due("low like high", x.paper(0, 250, 250), -10);
        check.due("any numbers", x.paper(0, Integer.MIN_VALUE, Integer.MAX_VALUE), -10);
    }

    private static HardShop afterRest() {
        HardShop x = new HardShop();
        Bench.restingFurnace(x, 0, 1);
        x.run(0);
        x.tick(1);
        return x;
    }

    private static void given() {
        HardShop x = afterRest();
        check.due("hardness", x.shell(0, 0, HARDNESS), 250);
        check.due("wide", x.paper(0, 0, 1000), 1);
        check.due("just", x.paper(0, 250, 250), 1);
        x.unload(0, 0);
        check.due("outside too", x.paper(0, 250, 250), 1);
    }

    private static void noRun() {
        HardShop x = new HardShop();
        Bench.restingFurnace(x, 0, 1);
        check.due("loaded, not run", x.paper(0, 0, 1000), -10);
        Bench.quickPart(x, 1, 0, 0);
        x.run(0);
        x.tick(1);
        x.load(0, 1, 1);
        check.due("came later", x.paper(1, 0, 1000), -10);
    }

    private static void inDoubt() {
        HardShop x = afterRest();
        check.due("one by it", x.survey(0, 1), 1);
        check.due("in doubt", x.paper(0, 0, 1000), -11);
        x.run(0);
        x.tick(1);
        check.due("a new run", x.paper(0, 0, 1000), 1);
    }

    private static void notWell() {
        HardShop x = new HardShop();
        Bench.restingFurnace(x, 0, 2);
        x.run(0);
        check.due("not over", x.paper(0, 0, 1000), -12);
        x.tick(1);
        check.due("not over still", x.paper(0, 0, 1000), -12);
        x.stop(0);
        check.due("stopped", x.paper(0, 0, 1000), -12);
        x.run(0);
        x.tick(2);
        check.due("to its end", x.paper(0, 0, 1000), 1);
        tooFewProbes();
    }

    private static void tooFewProbes() {
        HardShop x = new HardShop();
        x.load(0, 0, Bench.quickPart(x, 1, 0, 0));
        x.load(0, 3, Bench.quickPart(x, 1, 0, 0));
        x.probe(0, 3, false, 0);
        x.line(0, SOAK, 200, 1);
        x.run(0);
        x.tick(1);
        check.due("too few probes, part 0", x.paper(0, 0, 1000), -12);
        check.due("too few probes, part 1", x.paper(1, 0, 1000), -12);
    }

    private static void hardnessOutside() {
        HardShop x = afterRest();
        check.due("too soft", x.paper(0, 251, 1000), -13);
        check.due("too hard", x.paper(0, 0, 249), -13);
        check.due("just soft enough", x.paper(0, 0, 250), 1);
        check.due("just hard enough", x.paper(0, 250, 1000), 1);
    }

    private static void tooWarm() {
        HardShop x = afterRest();
        x.unload(0, 0);
        Bench.bring(x, 0, 500);
        check.due("500 is not above", x.paper(0, 0, 1000), 1);
        Bench.bring(x, 0, 501);
        check.due("501 is above", x.paper(0, 0, 1000), -14);
    }

    private static void firstReasonFirst() {
        HardShop x = new HardShop();
        int part = Bench.restingFurnace(x, 0, 2);
        x.unload(0, 0);
        Bench.bring(x, part, 900);
        check.due("-10 ahead of -13 and -14", x.paper(part, 0, 1), -10);
        x.load(0, 0, part);
        x.run(0);
        x.stop(0);
        x.unload(0, 0);
        check.due("-12 ahead of -13 and -14", x.paper(part, 0, 1), -12);
        x.survey(0, 9);
        check.due("-11 ahead of -12", x.paper(part, 0, 1), -11);
        x.load(0, 0, part);
        x.run(0);
        x.tick(2);
        x.unload(0, 0);
        Bench.bring(x, part, 900);
        check.due("-13 ahead of -14", x.paper(part, 0, 1), -13);
        check.due("-14", x.paper(part, 0, 1000), -14);
    }

    private static void latestRunCounts() {
        HardShop x = afterRest();
        x.unload(0, 0);
        x.load(1, 2, 0);
        x.line(1, QUENCH, 200, 2);
        check.due("the run before", x.paper(0, 0, 1000), 1);
        x.run(1);
        check.due("the latest is not over", x.paper(0, 0, 1000), -12);
        x.tick(2);
        check.due("the latest is over", x.paper(0, 0, 1000), 1);
        x.survey(0, 4);
        check.due("doubt of the one before", x.paper(0, 0, 1000), 1);
        x.survey(1, 4);
        check.due("doubt of the latest", x.paper(0, 0, 1000), -11);
    }

    private static void onlyPartsInIt() {
        HardShop x = afterRest();
        x.unload(0, 0);
        x.load(0, 1, Bench.quickPart(x, 1, 0, 0));
        x.run(0);
        check.due("part 1 is in it", x.paper(1, 0, 1000), -12);
        check.due("part 0 is not", x.paper(0, 0, 1000), 1);
    }

    private static void outermostShellCounts() {
        HardShop x = new HardShop();
        x.part(2, 1, 1, 300, 0, 0);
        x.load(0, 0, 0);
        x.line(0, REST, 0, 1);
        x.run(0);
        x.tick(1);
        x.unload(0, 0);
        x.step(0, 12000, 6);
        check.that("the innermost is colder than 500", x.shell(0, 1, WARMTH) <= 500);
        check.that("the outermost is partly hot", x.shell(0, 0, HARDNESS) < 250);
        check.due("hardness of the outermost", x.paper(0, 250, 250), -13);
        check.due("warmth of the outermost", x.paper(0, 0, 1000), -14);
    }
}
