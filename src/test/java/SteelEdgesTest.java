/** A STEP of a PART: where a number is cut, and each WARMTH at which the steel changes otherwise than one beside it. */
public final class SteelEdgesTest {
    private static final Check check = new Check();
    private static final int WARMTH = 0, HOT = 1, LAMELLAR = 2, TOUGH = 3, HARD = 4, DRAWN = 5, HARDNESS = 6;

    public static void main(String[] args) {
        whatComesIsCut();
        whatGoesOnIsCut();
        fromWarmthsAsTheyAre();
        shellByShell();
        hotAbove7300();
        lamellarThenToughThenHard();
        upToAllOfThem();
        lamellarFrom5500To7300();
        lamellarUpToP();
        toughFrom3000To5499();
        toughUpToB();
        hardBelow3000();
        hardIsCut();
        hardIfItIsLess();
        hardNoMoreThanHotHas();
        hardOfHotAndHardAlone();
        drawnFrom1500To6500();
        drawnIfHardAboveNone();
        drawnByHardAsItIsNow();
        drawnNoneIfHotAbove500();
        hardnessOfOneKind();
        hardnessIsCut();
        hardnessByDrawnIsCut();
        hardnessWornByFourHundredAtMost();
        check.end();
    }

    /** One step to a warmth that is near enough for it. */
    private static void stepTo(HardShop x, int part, int warmth) {
        check.due("one step to " + warmth, Bench.bring(x, part, warmth), 1);
    }

    private static void shares(String when, HardShop x, int part, int... due) {
        for (int kind = HOT; kind <= HARD; kind++) {
            check.due(when + ": share " + kind, x.shell(part, 0, kind), due[kind - HOT]);
        }
    }

    /** A part at 7290 with 10 LAMELLAR, 20 TOUGH and 970 HARD. */
    private static int mixedPart(HardShop x) {
        int part = Bench.hotPart(x, 10, 20);
        x.step(part, 0, 2);
        x.step(part, -1000, 5);
        Bench.bring(x, part, 7290);
        shares("mixed", x, part, 0, 10, 20, 970);
        return part;
    }

    /** A part of which so few (at most 60) are HOT, the others LAMELLAR; it is at 7300 and ten for each HOT. */
    private static int partWithHot(HardShop x, int hot, int p, int b) {
        int part = Bench.quickPart(x, 1, p, b);
        Bench.bring(x, part, 7300 + 10 * hot);
        shares("some HOT", x, part, hot, 1000 - hot, 0, 0);
        return part;
    }

    /** A part all HOT at 3700, with rates of 0. */
    private static int hotAt3700(HardShop x) {
        int part = Bench.hotPart(x, 0, 0);
        x.step(part, 0, 1);
        Bench.bring(x, part, 3700);
        shares("all HOT", x, part, 1000, 0, 0, 0);
        return part;
    }

    private static int hardPart(HardShop x) {
        int part = Bench.hotPart(x, 0, 0);
        x.step(part, -1000, 10);
        shares("all HARD", x, part, 0, 0, 0, 1000);
        return part;
    }

    private static void whatComesIsCut() {
        check.sentence("a is (g less that of SHELL 0) S by 1000, cut toward 0");
        int[] beside = {1199, 1200, 2199, 2200, -799, -800, 200, 201, 199};
        int[] taken = {0, 1, 1, 2, 0, -1, 0, 0, 0};
        for (int i = 0; i < beside.length; i++) {
            HardShop x = new HardShop();
            x.part(1, 1, 300, 1, 0, 0);
            check.due("beside " + beside[i], x.step(0, beside[i], 1), 200 + taken[i]);
            check.due("taken beside " + beside[i], x.taken(0), taken[i]);
        }
    }

    private static void whatGoesOnIsCut() {
        check.sentence("between SHELLS i and i + 1 goes (that of i less that of i + 1) K by 1000, cut toward 0");
        int[] outer = {1199, 1200, -799, -800};
        int[] goes = {0, 1, 0, -1};
        for (int i = 0; i < outer.length; i++) {
            HardShop x = new HardShop();
            x.part(2, 1, 1, 300, 0, 0);
            Bench.bring(x, 0, outer[i]);
            check.due("none before", x.shell(0, 1, WARMTH), 200);
            check.due("to the inner beside " + outer[i], x.step(0, outer[i], 1), 200 + goes[i]);
            check.due("from the outer", x.shell(0, 0, WARMTH), outer[i] - goes[i]);
        }
    }

    private static void fromWarmthsAsTheyAre() {
        check.sentence("from WARMTHS as they are");
        HardShop x = new HardShop();
        x.part(3, 1, 300, 300, 0, 0);
        x.step(0, 10200, 1);
        check.due("0 gets 3000", x.shell(0, 0, WARMTH), 3200);
        check.due("1 gets none of it yet", x.shell(0, 1, WARMTH), 200);
        x.step(0, 10200, 1);
        check.due("3200 + 2100 - 900", x.shell(0, 0, WARMTH), 4400);
        check.due("200 + 900", x.shell(0, 1, WARMTH), 1100);
        check.due("2 gets none of it yet", x.shell(0, 2, WARMTH), 200);
        x.step(0, 10200, 1);
        check.due("4400 + 1740 - 990", x.shell(0, 0, WARMTH), 5150);
        check.due("1100 + 990 - 270", x.shell(0, 1, WARMTH), 1820);
        check.due("200 + 270", x.shell(0, 2, WARMTH), 470);
    }

    private static void shellByShell() {
        check.sentence("Then, SHELL by SHELL, with its WARMTH w now");
        for (int n = 1; n <= 6; n++) {
            HardShop x = new HardShop();
            int part = x.part(n, 1, 300, 300, 0, 0);
            x.step(part, 12000, 200);
            for (int i = 0; i < n; i++) {
                check.due("HOT of shell " + i + " of " + n, x.shell(part, i, HOT), 1000);
            }
            x.step(part, -1000, 200);
            for (int i = 0; i < n; i++) {
                check.due("HARD of shell " + i + " of " + n, x.shell(part, i, HARD), 1000);
            }
        }
        HardShop x = new HardShop();
        int part = x.part(2, 1, 1, 300, 0, 0);
        x.step(part, 12000, 9);
        check.that("the outer one is HOT by its own warmth", x.shell(part, 0, HOT) > 0);
        check.due("the inner one is not", x.shell(part, 1, HOT), 0);
    }

    private static void hotAbove7300() {
        check.sentence("w above 7300: with c (w - 7300) by 10, cut: up to c of LAMELLAR become HOT");
        int[] warmth = {7299, 7300, 7301, 7309, 7310, 7319, 7320, 7900};
        int[] hot = {0, 0, 0, 0, 1, 1, 2, 60};
        for (int i = 0; i < warmth.length; i++) {
            HardShop x = new HardShop();
            int part = Bench.quickPart(x, 1, 200, 200);
            Bench.bring(x, part, 6200);
            stepTo(x, part, warmth[i]);
            shares("at " + warmth[i], x, part, hot[i], 1000 - hot[i], 0, 0);
        }
    }

    private static void lamellarThenToughThenHard() {
        check.sentence("up to c of LAMELLAR become HOT, then of TOUGH, then of HARD, c in all");
        int[][] due = {
            {9, 1, 20, 970}, {10, 0, 20, 970}, {11, 0, 19, 970},
            {29, 0, 1, 970}, {30, 0, 0, 970}, {31, 0, 0, 969}, {140, 0, 0, 860}
        };
        for (int[] of : due) {
            HardShop x = new HardShop();
            int part = mixedPart(x);
            stepTo(x, part, 7300 + 10 * of[0]);
            shares("c is " + of[0], x, part, of);
        }
    }

    private static void upToAllOfThem() {
        check.sentence("up to c of LAMELLAR .. TOUGH .. HARD: no more than there are");
        HardShop x = new HardShop();
        int part = Bench.quickPart(x, 1, 0, 0);
        Bench.bring(x, part, 7630);
        x.step(part, 7630, 29);
        shares("30 steps of 33", x, part, 990, 10, 0, 0);
        x.step(part, 7630, 1);
        shares("31 steps", x, part, 1000, 0, 0, 0);
        x.step(part, 7630, 1);
        shares("32 steps", x, part, 1000, 0, 0, 0);
        int mixed = mixedPart(x);
        x.step(mixed, 12000, 9);
        shares("all of a mixed one", x, mixed, 1000, 0, 0, 0);
    }

    private static void lamellarFrom5500To7300() {
        check.sentence("w 5500 .. 7300: up to P of HOT become LAMELLAR");
        int[] warmth = {7301, 7300, 7299, 5501, 5500, 5499};
        int[] lamellar = {0, 7, 7, 7, 7, 0};
        int[] tough = {0, 0, 0, 0, 0, 9};
        for (int i = 0; i < warmth.length; i++) {
            HardShop x = new HardShop();
            int part = Bench.hotPart(x, 7, 9);
            stepTo(x, part, warmth[i]);
            shares("at " + warmth[i], x, part, 1000 - lamellar[i] - tough[i], lamellar[i], tough[i], 0);
        }
    }

    private static void lamellarUpToP() {
        check.sentence("up to P of HOT become LAMELLAR: no more than HOT has");
        for (int hot = 6; hot <= 8; hot++) {
            HardShop x = new HardShop();
            int part = partWithHot(x, hot, 7, 9);
            stepTo(x, part, 7300);
            int left = Math.max(0, hot - 7);
            shares("P 7 of " + hot, x, part, left, 1000 - left, 0, 0);
        }
    }

    private static void toughFrom3000To5499() {
        check.sentence("w 3000 .. 5499: up to B of HOT become TOUGH");
        int[] warmth = {5500, 5499, 5498};
        int[] tough = {0, 9, 9};
        for (int i = 0; i < warmth.length; i++) {
            HardShop x = new HardShop();
            int part = Bench.hotPart(x, 0, 9);
            stepTo(x, part, warmth[i]);
            shares("at " + warmth[i], x, part, 1000 - tough[i], 0, tough[i], 0);
        }
        int[] lower = {3001, 3000, 2999};
        int[] more = {9, 9, 0};
        for (int i = 0; i < lower.length; i++) {
            HardShop x = new HardShop();
            int part = Bench.hotPart(x, 0, 9);
            stepTo(x, part, 5400);
            stepTo(x, part, 3700);
            stepTo(x, part, lower[i]);
            shares("at " + lower[i], x, part, 982 - more[i], 0, 18 + more[i], 0);
        }
    }

    private static void toughUpToB() {
        check.sentence("up to B of HOT become TOUGH: no more than HOT has");
        for (int hot = 8; hot <= 10; hot++) {
            HardShop x = new HardShop();
            int part = partWithHot(x, hot, 7, 9);
            stepTo(x, part, 5000);
            int tough = Math.min(9, hot);
            shares("B 9 of " + hot, x, part, hot - tough, 1000 - hot, tough, 0);
        }
    }

    private static void hardBelow3000() {
        check.sentence("w below 3000: HARD becomes t");
        int[] warmth = {3000, 2600};
        int[] hard = {0, 153};
        for (int i = 0; i < warmth.length; i++) {
            HardShop x = new HardShop();
            int part = hotAt3700(x);
            stepTo(x, part, warmth[i]);
            shares("at " + warmth[i], x, part, 1000 - hard[i], 0, 0, hard[i]);
        }
    }

    private static void hardIsCut() {
        check.sentence("t HOT and HARD together times (3000 - w) by 2600, cut");
        int[] warmth = {2999, 2998, 2997, 2995, 2994, 2993};
        int[] hard = {0, 0, 1, 1, 2, 2};
        for (int i = 0; i < warmth.length; i++) {
            HardShop x = new HardShop();
            int part = hotAt3700(x);
            stepTo(x, part, warmth[i]);
            shares("at " + warmth[i], x, part, 1000 - hard[i], 0, 0, hard[i]);
        }
    }

    private static void hardIfItIsLess() {
        check.sentence("HARD becomes t, if it is less");
        HardShop x = new HardShop();
        int part = hotAt3700(x);
        Bench.bring(x, part, 1700);
        shares("500 at 1700", x, part, 500, 0, 0, 500);
        x.step(part, 1700, 1);
        shares("t as it is", x, part, 500, 0, 0, 500);
        stepTo(x, part, 1701);
        shares("t one less", x, part, 500, 0, 0, 500);
        stepTo(x, part, 2999);
        shares("t 0", x, part, 500, 0, 0, 500);
        Bench.bring(x, part, 1698);
        shares("t as it is, cut", x, part, 500, 0, 0, 500);
        stepTo(x, part, 1697);
        shares("t one more", x, part, 499, 0, 0, 501);
    }

    private static void hardNoMoreThanHotHas() {
        check.sentence("from HOT, no more than that has");
        int[] warmth = {401, 400, 399, 397, 0, -900};
        for (int w : warmth) {
            HardShop x = new HardShop();
            int part = hotAt3700(x);
            Bench.bring(x, part, w);
            int hard = w == 401 ? 999 : 1000;
            shares("at " + w, x, part, 1000 - hard, 0, 0, hard);
        }
    }

    private static void hardOfHotAndHardAlone() {
        check.sentence("t HOT and HARD together: of no other kind");
        HardShop x = new HardShop();
        int lamellar = Bench.quickPart(x, 1, 0, 0);
        x.step(lamellar, -1000, 20);
        shares("without HOT", x, lamellar, 0, 1000, 0, 0);
        int few = partWithHot(x, 50, 0, 0);
        stepTo(x, few, 5200);
        stepTo(x, few, 3400);
        stepTo(x, few, 2200);
        shares("50 by 800 by 2600", x, few, 35, 950, 0, 15);
        Bench.bring(x, few, 1000);
        shares("35 and 15 by 2000 by 2600", x, few, 12, 950, 0, 38);
        Bench.bring(x, few, -900);
        shares("all 50", x, few, 0, 950, 0, 50);
    }

    private static void drawnFrom1500To6500() {
        check.sentence("DRAWN: if w is 1500 .. 6500: (w - 1500) by 100, cut, more");
        int[] warmth = {1400, 1499, 1500, 1599, 1600, 1699, 1700};
        int[] more = {0, 0, 0, 0, 1, 1, 2};
        for (int i = 0; i < warmth.length; i++) {
            HardShop x = new HardShop();
            int part = hardPart(x);
            int before = x.shell(part, 0, DRAWN);
            stepTo(x, part, warmth[i]);
            check.due("at " + warmth[i], x.shell(part, 0, DRAWN), before + more[i]);
        }
        int[] higher = {6400, 6499, 6500, 6501, 7300};
        int[] muchMore = {49, 49, 50, 0, 0};
        for (int i = 0; i < higher.length; i++) {
            HardShop x = new HardShop();
            int part = hardPart(x);
            Bench.bring(x, part, 6200);
            int before = x.shell(part, 0, DRAWN);
            stepTo(x, part, higher[i]);
            check.due("at " + higher[i], x.shell(part, 0, DRAWN), before + muchMore[i]);
        }
    }

    private static void drawnIfHardAboveNone() {
        check.sentence("DRAWN: and HARD above 0");
        for (int hot = 0; hot <= 1; hot++) {
            HardShop x = new HardShop();
            int part = partWithHot(x, hot, 0, 0);
            Bench.bring(x, part, 400);
            check.due(hot + " HARD", x.shell(part, 0, HARD), hot);
            check.due(hot + " HARD, not yet", x.shell(part, 0, DRAWN), 0);
            stepTo(x, part, 2500);
            check.due(hot + " HARD at 2500", x.shell(part, 0, DRAWN), 10 * hot);
        }
    }

    private static void drawnByHardAsItIsNow() {
        check.sentence("And DRAWN: behind the change of the same STEP");
        HardShop x = new HardShop();
        int part = partWithHot(x, 50, 0, 0);
        stepTo(x, part, 5200);
        stepTo(x, part, 3400);
        check.due("none HARD yet", x.shell(part, 0, DRAWN), 0);
        stepTo(x, part, 2200);
        check.due("HARD and DRAWN in one", x.shell(part, 0, DRAWN), 7);
        int last = hardPart(x);
        Bench.bring(x, last, 6400);
        int before = x.shell(last, 0, DRAWN);
        stepTo(x, last, 7310);
        check.due("1 HOT", x.shell(last, 0, HOT), 1);
        check.due("a little HOT leaves it", x.shell(last, 0, DRAWN), before);
    }

    private static void drawnNoneIfHotAbove500() {
        check.sentence("HOT above 500: it is 0");
        HardShop x = new HardShop();
        int above = hotAt3700(x);
        Bench.bring(x, above, 1702);
        shares("501 HOT", x, above, 501, 0, 0, 499);
        check.due("501 HOT: DRAWN", x.shell(above, 0, DRAWN), 0);
        int half = hotAt3700(x);
        Bench.bring(x, half, 1700);
        shares("500 HOT", x, half, 500, 0, 0, 500);
        check.due("500 HOT: DRAWN", x.shell(half, 0, DRAWN), 2);
        Bench.bring(x, half, 7309);
        int drawn = x.shell(half, 0, DRAWN);
        check.that("drawn on the way", drawn > 2);
        stepTo(x, half, 7310);
        shares("501 HOT again", x, half, 501, 0, 0, 499);
        check.due("501 HOT again: DRAWN", x.shell(half, 0, DRAWN), 0);
    }

    private static void hardnessOfOneKind() {
        check.sentence("HARDNESS: 200 HOT, 250 LAMELLAR, 450 TOUGH, 800 HARD");
        HardShop x = new HardShop();
        int lamellar = Bench.quickPart(x, 1, 0, 0);
        check.due("all LAMELLAR", x.shell(lamellar, 0, HARDNESS), 250);
        int tough = Bench.hotPart(x, 0, 200);
        check.due("all HOT", x.shell(tough, 0, HARDNESS), 200);
        Bench.bring(x, tough, 4000);
        x.step(tough, 4000, 5);
        shares("all TOUGH", x, tough, 0, 0, 1000, 0);
        check.due("all TOUGH", x.shell(tough, 0, HARDNESS), 450);
        int hard = hardPart(x);
        check.that("hardly DRAWN", x.shell(hard, 0, DRAWN) < 50);
        check.due("all HARD", x.shell(hard, 0, HARDNESS), 800);
    }

    private static void hardnessIsCut() {
        check.sentence("HARDNESS: (200 HOT + 250 LAMELLAR + 450 TOUGH + h HARD) by 1000, cut");
        HardShop x = new HardShop();
        int one = partWithHot(x, 1, 0, 0);
        check.due("249.95", x.shell(one, 0, HARDNESS), 249);
        int twenty = partWithHot(x, 20, 0, 0);
        check.due("249 just", x.shell(twenty, 0, HARDNESS), 249);
        int more = partWithHot(x, 21, 0, 0);
        check.due("248.95", x.shell(more, 0, HARDNESS), 248);
        int mixed = mixedPart(x);
        int h = 800 - x.shell(mixed, 0, DRAWN) / 50;
        check.due("mixed", x.shell(mixed, 0, HARDNESS), (250 * 10 + 450 * 20 + h * 970) / 1000);
    }

    /** Draws an all HARD part until it has just so much, the last of it by one a step at 1600. */
    private static void drawUpTo(HardShop x, int part, int drawn) {
        int far = drawn - 100 - x.shell(part, 0, DRAWN);
        if (far > 0) {
            Bench.bring(x, part, 6500);
        }
        for (int left = (drawn - 100 - x.shell(part, 0, DRAWN)) / 50; left > 0; left -= 200) {
            x.step(part, 6500, Math.min(left, 200));
        }
        Bench.bring(x, part, 1600);
        int rest = drawn - x.shell(part, 0, DRAWN);
        if (rest > 0) {
            x.step(part, 1600, rest);
        }
        check.due("drawn", x.shell(part, 0, DRAWN), drawn);
    }

    private static void hardnessByDrawnIsCut() {
        check.sentence("h being 800 less DRAWN by 50, cut");
        HardShop x = new HardShop();
        int part = hardPart(x);
        int[] drawn = {49, 50, 99, 100, 101};
        int[] hardness = {800, 799, 799, 798, 798};
        for (int i = 0; i < drawn.length; i++) {
            drawUpTo(x, part, drawn[i]);
            check.due("drawn " + drawn[i], x.shell(part, 0, HARDNESS), hardness[i]);
        }
    }

    private static void hardnessWornByFourHundredAtMost() {
        check.sentence("the least of 400 and DRAWN by 50");
        HardShop x = new HardShop();
        int part = hardPart(x);
        int[] drawn = {19949, 19950, 19999, 20000, 20049, 20050, 20100, 30000};
        int[] hardness = {402, 401, 401, 400, 400, 400, 400, 400};
        for (int i = 0; i < drawn.length; i++) {
            drawUpTo(x, part, drawn[i]);
            check.due("drawn " + drawn[i], x.shell(part, 0, HARDNESS), hardness[i]);
        }
    }
}
