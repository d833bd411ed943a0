/** Promises 1 to 6 and the terms of PARTS: the last number that is taken, the first that is refused, the empty and the full. */
public final class PartEdgesTest {
    private static final Check check = new Check();
    private static final int BAD = -2, NO = -3, FULL = -4, NONE = -1, BAD_SHELL = -100000, BAD_KEPT = 1;
    private static final long BAD_TAKEN = -9999999999L;
    private static final int WARMTH = 0, HOT = 1, LAMELLAR = 2, TOUGH = 3, HARD = 4, DRAWN = 5, HARDNESS = 6;
    private static final int REST = 3;

    public static void main(String[] args) {
        noPartsAtFirst();
        noProgramsAtFirst();
        noJobsAtFirst();
        objectsShareNothing();
        twelveParts();
        oneToSixShells();
        massOneToThousand();
        kOneToThreeHundred();
        sOneToThreeHundred();
        pNoneToTwoHundred();
        bNoneToTwoHundred();
        firstWarmthAndShares();
        oneToTwoHundredSteps();
        besideWhatAStepMayBe();
        stepOfWhichPart();
        stepInAFurnace();
        stepAnswersInnermost();
        whatOfAShell();
        shellsOfAPart();
        takenUpAndDown();
        takenOfWhichPart();
        keptIsAlwaysNone();
        keptOfWhichPart();
        sharesAreThousandTogether();
        check.end();
    }

    private static void noPartsAtFirst() {
        check.sentence("1: No PARTS");
        HardShop x = new HardShop();
        check.due("count(0)", x.count(0), 0);
        check.due("step", x.step(0, 200, 1), BAD);
        check.due("shell", x.shell(0, 0, 0), BAD_SHELL);
        check.due("taken", x.taken(0), BAD_TAKEN);
        check.due("kept", x.kept(0), BAD_KEPT);
        check.due("load", x.load(0, 0, 0), BAD);
        check.due("paper", x.paper(0, 0, 1000), BAD);
        for (int f = 0; f < 3; f++) {
            check.due("mass in furnace " + f, x.about(f, 5), 0);
            check.due("unload of furnace " + f, x.unload(f, 0), NO);
        }
    }

    private static void noProgramsAtFirst() {
        check.sentence("1: no PROGRAMS");
        HardShop x = new HardShop();
        for (int f = 0; f < 3; f++) {
            x.load(f, 0, x.part(1, 1, 1, 1, 0, 0));
            check.due("lines of furnace " + f, x.about(f, 6), 0);
            check.due("clear " + f, x.clear(f), 0);
            check.due("run " + f, x.run(f), NO);
            check.due("stop " + f, x.stop(f), NO);
        }
        check.due("no runs", x.count(1), 0);
        check.due("none RUN", x.count(2), 0);
        check.due("tick", x.tick(200), 0);
        check.due("runAt", x.runAt(0, 0), NONE);
    }

    private static void noJobsAtFirst() {
        check.sentence("1: no JOBS");
        HardShop x = new HardShop();
        check.due("count(3)", x.count(3), 0);
        check.due("lateness", x.lateness(), 0);
        check.due("order(0)", x.order(0), NONE);
        check.due("clearJobs", x.clearJobs(), 0);
    }

    private static void objectsShareNothing() {
        check.sentence("1: A new object, beside a busy one");
        HardShop busy = new HardShop();
        HardShop before = new HardShop();
        long fresh = before.digest();
        Scenes.running(busy);
        check.due("digest of one made before", before.digest(), fresh);
        check.due("digest of one made behind", new HardShop().digest(), fresh);
        check.due("jobs of one made before", before.clearJobs(), 0);
        check.due("lateness of one made behind", new HardShop().lateness(), 0);
        long worked = busy.digest();
        before.part(1, 1, 1, 300, 0, 0);
        before.step(0, 12000, 200);
        before.job(1, 0);
        check.due("the busy one stays", busy.digest(), worked);
    }

    private static void twelveParts() {
        check.sentence("PARTS 0 .. 11; 2: its number, FULL: 12");
        HardShop x = new HardShop();
        for (int i = 0; i <= 11; i++) {
            check.due("parts so far", x.count(0), i);
            check.due("no part " + i + " yet", x.taken(i), BAD_TAKEN);
            check.due("part " + i, x.part(1 + i % 6, 1 + i, 100, 200 + i, i, i), i);
        }
        check.due("a thirteenth", x.part(1, 1, 1, 1, 0, 0), FULL);
        check.due("and again", x.part(6, 1000, 300, 300, 200, 200), FULL);
        check.due("BAD ahead of FULL", x.part(0, 1, 1, 1, 0, 0), BAD);
        check.due("12 parts", x.count(0), 12);
        for (int i = 0; i <= 11; i++) {
            check.due("shells of " + i, x.shell(i, i % 6, WARMTH), 200);
            check.due("no more shells of " + i, x.shell(i, i % 6 + 1, WARMTH), BAD_SHELL);
            x.step(i, 1200, 1);
            check.due("S of " + i, x.taken(i), 200 + i);
            check.due("load " + i, x.load(i % 3, i / 3, i), 1);
        }
        check.due("masses 1, 4, 7, 10", x.about(0, 5), 22);
        check.due("masses 2, 5, 8, 11", x.about(1, 5), 26);
        check.due("masses 3, 6, 9, 12", x.about(2, 5), 30);
        check.due("no part 12", x.taken(12), BAD_TAKEN);
    }

    private static void oneToSixShells() {
        check.sentence("SHELLS 0 (outermost) .. n - 1 (n 1 .. 6)");
        HardShop x = new HardShop();
        check.due("0 shells", x.part(0, 1, 1, 1, 0, 0), BAD);
        check.due("7 shells", x.part(7, 1, 1, 1, 0, 0), BAD);
        check.due("-1 shells", x.part(-1, 1, 1, 1, 0, 0), BAD);
        check.due("no part by it", x.count(0), 0);
        check.due("1 shell", x.part(1, 1, 300, 300, 0, 0), 0);
        check.due("6 shells", x.part(6, 1, 300, 300, 0, 0), 1);
        x.step(1, 12000, 1);
        check.due("0 is outermost", x.shell(1, 0, WARMTH), 3740);
        check.due("5 is innermost", x.shell(1, 5, WARMTH), 200);
        x.step(0, 12000, 2);
        check.due("one shell keeps all that it gets", x.shell(0, 0, WARMTH), 6218);
    }

    private static void massOneToThousand() {
        check.sentence("a MASS (1 .. 1000)");
        HardShop x = new HardShop();
        check.due("0", x.part(1, 0, 1, 1, 0, 0), BAD);
        check.due("1001", x.part(1, 1001, 1, 1, 0, 0), BAD);
        check.due("1", x.part(1, 1, 1, 1, 0, 0), 0);
        check.due("1000", x.part(1, 1000, 1, 1, 0, 0), 1);
        x.load(0, 0, 0);
        x.load(1, 0, 1);
        check.due("mass 1", x.about(0, 5), 1);
        check.due("mass 1000", x.about(1, 5), 1000);
    }

    private static void kOneToThreeHundred() {
        check.sentence("K (1 .. 300)");
        HardShop x = new HardShop();
        check.due("0", x.part(2, 1, 0, 300, 0, 0), BAD);
        check.due("301", x.part(2, 1, 301, 300, 0, 0), BAD);
        check.due("1", x.part(2, 1, 1, 300, 0, 0), 0);
        check.due("300", x.part(2, 1, 300, 300, 0, 0), 1);
        x.step(0, 12000, 1);
        x.step(1, 12000, 1);
        check.due("3540 by 1 by 1000", x.step(0, 12000, 1), 203);
        check.due("3540 by 300 by 1000", x.step(1, 12000, 1), 1262);
    }

    private static void sOneToThreeHundred() {
        check.sentence("S (1 .. 300)");
        HardShop x = new HardShop();
        check.due("0", x.part(1, 1, 1, 0, 0, 0), BAD);
        check.due("301", x.part(1, 1, 1, 301, 0, 0), BAD);
        check.due("1", x.part(1, 1, 1, 1, 0, 0), 0);
        check.due("300", x.part(1, 1, 1, 300, 0, 0), 1);
        check.due("11800 by 1 by 1000", x.step(0, 12000, 1), 211);
        check.due("11800 by 300 by 1000", x.step(1, 12000, 1), 3740);
    }

    private static void pNoneToTwoHundred() {
        check.sentence("RATE P (0 .. 200)");
        HardShop x = new HardShop();
        check.due("-1", x.part(1, 1, 1, 300, -1, 0), BAD);
        check.due("201", x.part(1, 1, 1, 300, 201, 0), BAD);
        check.due("no part by it", x.count(0), 0);
        int none = Bench.hotPart(x, 0, 200);
        int most = Bench.hotPart(x, 200, 0);
        Bench.bring(x, none, 6000);
        Bench.bring(x, most, 6000);
        check.due("none by 0", x.shell(none, 0, LAMELLAR), 0);
        check.due("200 by 200", x.shell(most, 0, LAMELLAR), 200);
    }

    private static void bNoneToTwoHundred() {
        check.sentence("RATE B (0 .. 200)");
        HardShop x = new HardShop();
        check.due("-1", x.part(1, 1, 1, 300, 0, -1), BAD);
        check.due("201", x.part(1, 1, 1, 300, 0, 201), BAD);
        check.due("no part by it", x.count(0), 0);
        int none = Bench.hotPart(x, 200, 0);
        int most = Bench.hotPart(x, 0, 200);
        Bench.bring(x, none, 5400);
        Bench.bring(x, most, 5400);
        check.due("none by 0", x.shell(none, 0, TOUGH), 0);
        check.due("200 by 200", x.shell(most, 0, TOUGH), 200);
    }

    private static void firstWarmthAndShares() {
        check.sentence("a WARMTH (200 at first) and four SHARES (0, 1000, 0, 0 at first)");
        HardShop x = new HardShop();
        x.part(6, 1, 1, 1, 0, 0);
        for (int i = 0; i < 6; i++) {
            check.due("WARMTH of " + i, x.shell(0, i, WARMTH), 200);
            check.due("HOT of " + i, x.shell(0, i, HOT), 0);
            check.due("LAMELLAR of " + i, x.shell(0, i, LAMELLAR), 1000);
            check.due("TOUGH of " + i, x.shell(0, i, TOUGH), 0);
            check.due("HARD of " + i, x.shell(0, i, HARD), 0);
            check.due("DRAWN of " + i, x.shell(0, i, DRAWN), 0);
            check.due("HARDNESS of " + i, x.shell(0, i, HARDNESS), 250);
        }
    }

    private static void oneToTwoHundredSteps() {
        check.sentence("3: n STEPS (1 .. 200)");
        HardShop x = new HardShop();
        x.part(3, 1, 7, 9, 0, 0);
        x.part(3, 1, 7, 9, 0, 0);
        check.due("0", x.step(0, 9000, 0), BAD);
        check.due("201", x.step(0, 9000, 201), BAD);
        check.due("-1", x.step(0, 9000, -1), BAD);
        check.due("no step by it", x.taken(0), 0);
        check.due("1", x.step(0, 9000, 1), 200);
        check.due("taken by one step", x.taken(0), 79);
        check.due("199 more", x.step(0, 9000, 199), x.step(1, 9000, 200));
        check.due("as much taken", x.taken(0), x.taken(1));
        for (int i = 0; i < 3; i++) {
            check.due("warmth of shell " + i, x.shell(0, i, WARMTH), x.shell(1, i, WARMTH));
        }
        long before = x.taken(1);
        x.step(1, 9000, 1);
        check.that("200 steps are not 201", x.taken(1) > before);
    }

    private static void besideWhatAStepMayBe() {
        check.sentence("3: beside g (-1000 .. 12000)");
        HardShop x = new HardShop();
        x.part(1, 1, 1, 300, 0, 0);
        check.due("-1001", x.step(0, -1001, 1), BAD);
        check.due("12001", x.step(0, 12001, 1), BAD);
        check.due("no step by it", x.shell(0, 0, WARMTH), 200);
        check.due("-1000", x.step(0, -1000, 1), -160);
        check.due("12000", x.step(0, 12000, 1), 3488);
        check.due("as cold as can be", x.step(0, -1000, 200), -997);
        check.due("as warm as can be", x.step(0, 12000, 200), 11997);
    }

    private static void stepOfWhichPart() {
        check.sentence("3: BAD");
        HardShop x = new HardShop();
        x.part(1, 1, 1, 1, 0, 0);
        x.part(1, 1, 1, 1, 0, 0);
        check.due("part -1", x.step(-1, 200, 1), BAD);
        check.due("part 0", x.step(0, 200, 1), 200);
        check.due("part 1", x.step(1, 200, 1), 200);
        check.due("part 2", x.step(2, 200, 1), BAD);
    }

    private static void stepInAFurnace() {
        check.sentence("3: NO: it is in a FURNACE");
        for (int f = 0; f < 3; f++) {
            for (int place = 0; place < 4; place++) {
                HardShop x = new HardShop();
                x.part(1, 1, 1, 300, 0, 0);
                x.part(1, 1, 1, 300, 0, 0);
                x.load(f, place, 1);
                check.due("in " + f + ", " + place, x.step(1, 1200, 1), NO);
                check.due("BAD ahead of NO", x.step(1, 1200, 201), BAD);
                check.due("the other is outside", x.step(0, 1200, 1), 500);
                x.line(f, REST, 0, 5);
                x.run(f);
                check.due("in one that RUNS", x.step(1, 1200, 1), NO);
                x.tick(5);
                check.due("in one that RUNS no more", x.step(1, 1200, 1), NO);
                x.unload(f, place);
                check.due("outside again", x.step(1, 1200, 1), 500);
            }
        }
    }

    private static void stepAnswersInnermost() {
        check.sentence("3: WARMTH of its innermost SHELL");
        HardShop x = new HardShop();
        for (int n = 1; n <= 6; n++) {
            int part = x.part(n, 1, 300, 300, 0, 0);
            int answered = x.step(part, 12000, 9);
            check.due("of " + n, answered, x.shell(part, n - 1, WARMTH));
            check.that("colder than the outermost of " + n, n == 1 || answered < x.shell(part, 0, WARMTH));
        }
    }

    private static void whatOfAShell() {
        check.sentence("4: Of a SHELL: 0 WARMTH, 1 .. 4 SHARES, 5 DRAWN, 6 HARDNESS. BAD: -100000");
        HardShop x = new HardShop();
        int part = Bench.hotPart(x, 10, 20);
        x.step(part, 0, 2);
        x.step(part, -1000, 5);
        Bench.bring(x, part, 1700);
        Bench.bring(x, part, 7310);
        int drawn = x.shell(part, 0, DRAWN);
        check.due("WARMTH", x.shell(part, 0, 0), 7310);
        check.due("HOT", x.shell(part, 0, 1), 1);
        check.due("LAMELLAR", x.shell(part, 0, 2), 9);
        check.due("TOUGH", x.shell(part, 0, 3), 20);
        check.due("HARD", x.shell(part, 0, 4), 970);
        check.that("DRAWN", drawn > 2 && drawn < 400);
        check.due("HARDNESS", x.shell(part, 0, 6), (200 + 250 * 9 + 450 * 20 + (800 - drawn / 50) * 970) / 1000);
        check.due("-1", x.shell(part, 0, -1), BAD_SHELL);
        check.due("7", x.shell(part, 0, 7), BAD_SHELL);
    }

    private static void shellsOfAPart() {
        check.sentence("4: BAD: -100000");
        HardShop x = new HardShop();
        for (int n = 1; n <= 6; n++) {
            int part = x.part(n, 1, 1, 1, 0, 0);
            check.due("shell -1 of " + n, x.shell(part, -1, WARMTH), BAD_SHELL);
            check.due("shell 0 of " + n, x.shell(part, 0, WARMTH), 200);
            check.due("the last shell of " + n, x.shell(part, n - 1, WARMTH), 200);
            check.due("one more of " + n, x.shell(part, n, WARMTH), BAD_SHELL);
        }
        check.due("part -1", x.shell(-1, 0, WARMTH), BAD_SHELL);
        check.due("part 6", x.shell(6, 0, WARMTH), BAD_SHELL);
    }

    private static void takenUpAndDown() {
        check.sentence("5: TAKEN: the sum of all a of a PART");
        HardShop x = new HardShop();
        x.part(2, 1, 300, 300, 0, 0);
        check.due("none at first", x.taken(0), 0);
        x.step(0, 200, 200);
        check.due("none beside what is as warm", x.taken(0), 0);
        x.step(0, -1000, 1);
        check.due("below 0 by cooling", x.taken(0), -360);
        x.step(0, 12000, 1);
        check.due("3648 more", x.taken(0), 3288);
        check.due("-160 + 3648, and 108 from within", x.shell(0, 0, WARMTH), 3596);
        x.step(0, 3596, 1);
        check.due("what goes inward is not taken", x.taken(0), 3288);
        check.due("1051 of it went inward", x.shell(0, 0, WARMTH), 2545);
    }

    private static void takenOfWhichPart() {
        check.sentence("5: BAD: -9999999999");
        HardShop x = new HardShop();
        x.part(1, 1, 1, 1, 0, 0);
        check.due("-1", x.taken(-1), BAD_TAKEN);
        check.due("0", x.taken(0), 0);
        check.due("1", x.taken(1), BAD_TAKEN);
    }

    private static void keptIsAlwaysNone() {
        check.sentence("6: All WARMTHS of a PART together, less TAKEN, less 200 for each SHELL: always 0");
        for (int n = 1; n <= 6; n++) {
            HardShop x = new HardShop();
            int part = x.part(n, 1, 7 + 40 * n, 299 - 30 * n, n, n);
            check.due("of " + n + " at first", x.kept(part), 0);
            for (int g = -1000; g <= 12000; g += 777) {
                x.step(part, g, 1 + n);
                long sum = -200L * n - x.taken(part);
                for (int i = 0; i < n; i++) {
                    sum += x.shell(part, i, WARMTH);
                }
                check.due("of " + n + " by its shells", sum, 0);
                check.due("of " + n + " beside " + g, x.kept(part), 0);
            }
        }
    }

    private static void keptOfWhichPart() {
        check.sentence("6: BAD: 1");
        HardShop x = new HardShop();
        x.part(1, 1, 1, 1, 0, 0);
        check.due("-1", x.kept(-1), BAD_KEPT);
        check.due("0", x.kept(0), 0);
        check.due("1", x.kept(1), BAD_KEPT);
    }

    private static void sharesAreThousandTogether() {
        check.sentence("four SHARES, 1000 together");
        HardShop x = new HardShop();
        int part = x.part(2, 1, 300, 300, 37, 23);
        int[] beside = {12000, 9000, 6000, 4000, 2000, -1000, 8000, 12000, 0, 7400, 5000, -1000};
        for (int g : beside) {
            for (int times = 0; times < 4; times++) {
                x.step(part, g, 2);
                thousandTogether(x, part, 0);
                thousandTogether(x, part, 1);
            }
        }
    }

    private static void thousandTogether(HardShop x, int part, int i) {
        int sum = 0;
        for (int kind = HOT; kind <= HARD; kind++) {
            int share = x.shell(part, i, kind);
            check.that("none below 0", share >= 0);
            sum += share;
        }
        check.due("together", sum, 1000);
    }
}
