/** Promises 1 to 6: a new object, part, step, shell, taken, kept. */
public final class PartsTest {
    private static final Check check = new Check();
    private static final int WARMTH = 0, HOT = 1, LAMELLAR = 2, TOUGH = 3, HARD = 4, DRAWN = 5, HARDNESS = 6;

    public static void main(String[] args) {
        newObject();
        partNumbers();
        partRefusals();
        stepRefusals();
        stepInFurnace();
        warmthOfOneShell();
        warmthOfManyShells();
        warmthCutTowardZero();
        stepAnswersInnermost();
        becomingHot();
        becomingHotFromAllKinds();
        becomingLamellarAndTough();
        upToWhatThereIs();
        becomingHard();
        hardNeverLess();
        drawing();
        drawingEdges();
        drawnAnew();
        hardnessOfKinds();
        hardnessWornAtMost();
        shellRefusals();
        takenAndKept();
        check.end();
    }

    private static void newObject() {
        HardShop x = new HardShop();
        for (int what = 0; what <= 4; what++) {
            check.due("new: count " + what, x.count(what), 0);
        }
        for (int f = 0; f < 3; f++) {
            check.due("new: gas", x.about(f, 0), 200);
            check.due("new: error", x.about(f, 1), 0);
            check.due("new: runs", x.about(f, 2), 0);
            check.due("new: line", x.about(f, 3), HardShop.NONE);
            check.due("new: counted", x.about(f, 4), 0);
            check.due("new: mass", x.about(f, 5), 0);
            check.due("new: lines", x.about(f, 6), 0);
        }
        check.due("new: lateness", x.lateness(), 0);
        check.due("new: order", x.order(0), HardShop.NONE);
        check.due("new: shell", x.shell(0, 0, 0), -100000);
        check.due("new: runAt", x.runAt(0, 0), HardShop.NONE);
    }

    private static void partNumbers() {
        HardShop x = new HardShop();
        for (int i = 0; i < 12; i++) {
            check.due("part " + i, x.part(1 + i % 6, 1000, 300, 300, 200, 200), i);
        }
        check.due("part 12", x.part(1, 1, 1, 1, 0, 0), HardShop.FULL);
        check.due("BAD ahead of FULL", x.part(7, 1, 1, 1, 0, 0), HardShop.BAD);
        check.due("12 parts", x.count(0), 12);
        for (int none = 12; none < 15; none++) {
            check.due("no shell of part " + none, x.shell(none, 0, 0), -100000);
            check.due("no step of part " + none, x.step(none, 200, 1), HardShop.BAD);
            check.due("no paper of part " + none, x.paper(none, 0, 1), HardShop.BAD);
        }
        check.due("first shell", x.shell(5, 5, WARMTH), 200);
        check.due("first hot", x.shell(5, 5, HOT), 0);
        check.due("first lamellar", x.shell(5, 5, LAMELLAR), 1000);
        check.due("first tough", x.shell(5, 5, TOUGH), 0);
        check.due("first hard", x.shell(5, 5, HARD), 0);
        check.due("first drawn", x.shell(5, 5, DRAWN), 0);
        check.due("first hardness", x.shell(5, 5, HARDNESS), 250);
    }

    private static void partRefusals() {
        HardShop x = new HardShop();
        int[] least = {1, 1, 1, 1, 0, 0};
        int[] most = {6, 1000, 300, 300, 200, 200};
        for (int i = 0; i < 6; i++) {
            int[] below = least.clone();
            int[] above = most.clone();
            below[i]--;
            above[i]++;
            check.due("part below " + i, part(x, below), HardShop.BAD);
            check.due("part above " + i, part(x, above), HardShop.BAD);
            below[i] = Integer.MIN_VALUE;
            above[i] = Integer.MAX_VALUE;
            check.due("part far below " + i, part(x, below), HardShop.BAD);
            check.due("part far above " + i, part(x, above), HardShop.BAD);
        }
        check.due("refused parts change nothing", x.count(0), 0);
        check.due("least part", part(x, least), 0);
        check.due("most part", part(x, most), 1);
    }

    private static int part(HardShop x, int[] of) {
        return x.part(of[0], of[1], of[2], of[3], of[4], of[5]);
    }

    private static void stepRefusals() {
        HardShop x = new HardShop();
        check.due("step of none", x.step(0, 200, 1), HardShop.BAD);
        x.part(1, 1, 1, 300, 0, 0);
        check.due("step of -1", x.step(-1, 200, 1), HardShop.BAD);
        check.due("step of 1", x.step(1, 200, 1), HardShop.BAD);
        check.due("step beside -1001", x.step(0, -1001, 1), HardShop.BAD);
        check.due("step beside 12001", x.step(0, 12001, 1), HardShop.BAD);
        check.due("no steps", x.step(0, 200, 0), HardShop.BAD);
        check.due("201 steps", x.step(0, 200, 201), HardShop.BAD);
        check.due("refused steps change nothing", x.shell(0, 0, WARMTH), 200);
        check.due("step beside 12000", x.step(0, 12000, 1), 3740);
        check.due("step beside -1000", x.step(0, -1000, 1), 2318);
        check.due("200 steps", x.step(0, 2318, 200), 2318);
    }

    private static void stepInFurnace() {
        HardShop x = new HardShop();
        x.part(1, 1, 1, 300, 0, 0);
        x.load(2, 3, 0);
        check.due("step in a furnace", x.step(0, 1200, 1), HardShop.NO);
        check.due("BAD ahead of NO", x.step(0, 1200, 0), HardShop.BAD);
        check.due("it changed nothing", x.shell(0, 0, WARMTH), 200);
        x.unload(2, 3);
        check.due("step outside again", x.step(0, 1200, 1), 500);
    }

    private static void warmthOfOneShell() {
        HardShop x = new HardShop();
        x.part(1, 1, 300, 300, 0, 0);
        check.due("200 + 3000", x.step(0, 10200, 1), 3200);
        check.due("3200 + 2100 + 1470", x.step(0, 10200, 2), 6770);
        check.due("taken", x.taken(0), 6570);
    }

    private static void warmthOfManyShells() {
        HardShop x = new HardShop();
        x.part(3, 1, 100, 200, 0, 0);
        x.step(0, 1200, 1);
        check.due("shell 0 after 1", x.shell(0, 0, WARMTH), 400);
        check.due("shell 1 after 1", x.shell(0, 1, WARMTH), 200);
        x.step(0, 1200, 1);
        check.due("shell 0 after 2: 400 + 160 - 20", x.shell(0, 0, WARMTH), 540);
        check.due("shell 1 after 2: 200 + 20", x.shell(0, 1, WARMTH), 220);
        check.due("shell 2 after 2", x.shell(0, 2, WARMTH), 200);
        x.step(0, 1200, 1);
        check.due("shell 0 after 3: 540 + 132 - 32", x.shell(0, 0, WARMTH), 640);
        check.due("shell 1 after 3: 220 + 32 - 2", x.shell(0, 1, WARMTH), 250);
        check.due("shell 2 after 3: 200 + 2", x.shell(0, 2, WARMTH), 202);
    }

    private static void warmthCutTowardZero() {
        HardShop x = new HardShop();
        x.part(2, 1, 7, 7, 0, 0);
        x.step(0, 0, 1);
        check.due("-1.4 is cut to -1", x.shell(0, 0, WARMTH), 199);
        x.step(0, 343, 1);
        check.due("1.008 is cut to 1", x.shell(0, 0, WARMTH), 200);
        x.step(0, -943, 1);
        check.due("-8.001 is cut to -8", x.shell(0, 0, WARMTH), 192);
        x.step(0, 192, 1);
        check.due("-0.056 between shells is cut to 0", x.shell(0, 1, WARMTH), 200);
        check.due("kept", x.kept(0), 0);
    }

    private static void stepAnswersInnermost() {
        HardShop x = new HardShop();
        x.part(2, 1, 100, 200, 0, 0);
        check.due("innermost after 2", x.step(0, 1200, 2), 220);
        check.due("outermost after 2", x.shell(0, 0, WARMTH), 540);
    }

    private static void becomingHot() {
        HardShop x = new HardShop();
        int part = Bench.quickPart(x, 1, 0, 0);
        Bench.bring(x, part, 7300);
        check.due("none HOT at 7300", x.shell(part, 0, HOT), 0);
        Bench.bring(x, part, 7309);
        check.due("0.9 is cut", x.shell(part, 0, HOT), 0);
        Bench.bring(x, part, 7310);
        check.due("1 at 7310", x.shell(part, 0, HOT), 1);
        Bench.bring(x, part, 7799);
        check.due("49 more at 7799", x.shell(part, 0, HOT), 50);
        check.due("and fewer LAMELLAR", x.shell(part, 0, LAMELLAR), 950);
        x.step(part, 7799, 20);
        check.due("no more than there are", x.shell(part, 0, HOT), 1000);
        check.due("none LAMELLAR", x.shell(part, 0, LAMELLAR), 0);
    }

    private static void becomingHotFromAllKinds() {
        HardShop x = new HardShop();
        int part = Bench.hotPart(x, 0, 100);
        Bench.bring(x, part, 5499);
        check.due("100 TOUGH", x.shell(part, 0, TOUGH), 100);
        int more = Bench.bring(x, part, 2999);
        int tough = x.shell(part, 0, TOUGH);
        check.due("100 TOUGH a step", tough, 100 * more);
        Bench.bring(x, part, 400);
        check.due("the others HARD", x.shell(part, 0, HARD), 1000 - tough);
        Bench.bring(x, part, 7290);
        check.due("none of it by warming", x.shell(part, 0, HOT), 0);
        Bench.bring(x, part, 7550);
        check.due("25 HOT", x.shell(part, 0, HOT), 25);
        check.due("TOUGH goes first", x.shell(part, 0, TOUGH), tough - 25);
        check.due("HARD stays", x.shell(part, 0, HARD), 1000 - tough);
        x.step(part, 7550, tough / 25);
        check.due("none TOUGH", x.shell(part, 0, TOUGH), 0);
        check.due("25 less HARD", x.shell(part, 0, HARD), 1000 - tough - 25);
        x.step(part, 12000, 20);
        check.due("all HOT", x.shell(part, 0, HOT), 1000);
        check.due("none HARD", x.shell(part, 0, HARD), 0);
        lamellarThenToughThenHard();
    }

    private static void lamellarThenToughThenHard() {
        HardShop x = new HardShop();
        int part = Bench.hotPart(x, 10, 20);
        x.step(part, 0, 1);
        check.due("10 LAMELLAR at 5600", x.shell(part, 0, LAMELLAR), 10);
        x.step(part, 0, 1);
        check.due("20 TOUGH at 3920", x.shell(part, 0, TOUGH), 20);
        x.step(part, -1000, 5);
        check.due("970 HARD", x.shell(part, 0, HARD), 970);
        Bench.bring(x, part, 7290);
        Bench.bring(x, part, 7450);
        check.due("15 in all HOT", x.shell(part, 0, HOT), 15);
        check.due("10 of LAMELLAR", x.shell(part, 0, LAMELLAR), 0);
        check.due("5 of TOUGH", x.shell(part, 0, TOUGH), 15);
        check.due("0 of HARD", x.shell(part, 0, HARD), 970);
        Bench.bring(x, part, 7500);
        check.due("20 more HOT", x.shell(part, 0, HOT), 35);
        check.due("15 of TOUGH", x.shell(part, 0, TOUGH), 0);
        check.due("5 of HARD", x.shell(part, 0, HARD), 965);
        allThreeAtOnce();
    }

    private static void allThreeAtOnce() {
        HardShop x = new HardShop();
        int part = Bench.hotPart(x, 10, 20);
        x.step(part, 0, 2);
        x.step(part, -1000, 5);
        Bench.bring(x, part, 7290);
        Bench.bring(x, part, 7700);
        check.due("40 of all three HOT", x.shell(part, 0, HOT), 40);
        check.due("10 of LAMELLAR", x.shell(part, 0, LAMELLAR), 0);
        check.due("20 of TOUGH", x.shell(part, 0, TOUGH), 0);
        check.due("10 of HARD", x.shell(part, 0, HARD), 960);
    }

    private static void becomingLamellarAndTough() {
        HardShop x = new HardShop();
        int part = Bench.hotPart(x, 7, 9);
        check.due("to 7301 in one step", Bench.bring(x, part, 7301), 1);
        check.due("all HOT at 7301", x.shell(part, 0, HOT), 1000);
        Bench.bring(x, part, 7300);
        check.due("P at 7300", x.shell(part, 0, LAMELLAR), 7);
        check.due("P from HOT", x.shell(part, 0, HOT), 993);
        check.due("to 5500 in one step", Bench.bring(x, part, 5500), 1);
        check.due("P at 5500", x.shell(part, 0, LAMELLAR), 14);
        check.due("no B at 5500", x.shell(part, 0, TOUGH), 0);
        Bench.bring(x, part, 5499);
        check.due("B at 5499", x.shell(part, 0, TOUGH), 9);
        check.due("no P at 5499", x.shell(part, 0, LAMELLAR), 14);
        int steps = Bench.bring(x, part, 3000);
        check.due("B down to 3000", x.shell(part, 0, TOUGH), 9 + 9 * steps);
        check.due("none HARD at 3000", x.shell(part, 0, HARD), 0);
        check.due("B from HOT", x.shell(part, 0, HOT), 1000 - 14 - 9 - 9 * steps);
        Bench.bring(x, part, 2999);
        check.due("no B at 2999", x.shell(part, 0, TOUGH), 9 + 9 * steps);
    }

    private static void upToWhatThereIs() {
        HardShop x = new HardShop();
        int lamellar = Bench.hotPart(x, 200, 200);
        Bench.bring(x, lamellar, 6000);
        x.step(lamellar, 6000, 5);
        check.due("all LAMELLAR", x.shell(lamellar, 0, LAMELLAR), 1000);
        check.due("none HOT", x.shell(lamellar, 0, HOT), 0);
        int tough = Bench.hotPart(x, 0, 149);
        Bench.bring(x, tough, 4000);
        x.step(tough, 4000, 8);
        check.due("all TOUGH", x.shell(tough, 0, TOUGH), 1000);
        check.due("no HOT left", x.shell(tough, 0, HOT), 0);
    }

    private static void becomingHard() {
        HardShop x = new HardShop();
        int part = Bench.hotPart(x, 0, 0);
        Bench.bring(x, part, 3000);
        check.due("to 2998 in one step", Bench.bring(x, part, 2998), 1);
        check.due("1000 by 2 by 2600 is cut", x.shell(part, 0, HARD), 0);
        check.due("to 2997 in one step", Bench.bring(x, part, 2997), 1);
        check.due("1 HARD at 2997", x.shell(part, 0, HARD), 1);
        check.due("999 HOT at 2997", x.shell(part, 0, HOT), 999);
        Bench.bring(x, part, 1700);
        check.due("half of both together", x.shell(part, 0, HARD), 500);
        check.due("the other half", x.shell(part, 0, HOT), 500);
        Bench.bring(x, part, 401);
        check.due("999 at 401", x.shell(part, 0, HARD), 999);
        Bench.bring(x, part, -500);
        check.due("no more than HOT has", x.shell(part, 0, HARD), 1000);
        check.due("HOT not below 0", x.shell(part, 0, HOT), 0);
    }

    private static void hardNeverLess() {
        HardShop x = new HardShop();
        int part = Bench.hotPart(x, 0, 0);
        Bench.bring(x, part, 1700);
        Bench.bring(x, part, 2900);
        check.due("HARD stays as it warms", x.shell(part, 0, HARD), 500);
        Bench.bring(x, part, 1400);
        check.due("1000 by 1600 by 2600", x.shell(part, 0, HARD), 615);
    }

    private static void drawing() {
        HardShop x = new HardShop();
        int part = Bench.hotPart(x, 0, 0);
        x.step(part, -1000, 10);
        int before = x.shell(part, 0, DRAWN);
        Bench.bring(x, part, 1499);
        check.due("not below 1500", x.shell(part, 0, DRAWN), before);
        Bench.bring(x, part, 1500);
        Bench.bring(x, part, 1599);
        check.due("0.99 is cut", x.shell(part, 0, DRAWN), before);
        Bench.bring(x, part, 1600);
        check.due("1 at 1600", x.shell(part, 0, DRAWN), before + 1);
        x.step(part, 1600, 7);
        check.due("1 each step", x.shell(part, 0, DRAWN), before + 8);
        int soft = Bench.quickPart(x, 1, 0, 0);
        x.step(soft, 4000, 20);
        check.due("without HARD it is not DRAWN", x.shell(soft, 0, DRAWN), 0);
        Bench.bring(x, soft, 7310);
        Bench.bring(x, soft, 400);
        check.due("1 HARD", x.shell(soft, 0, HARD), 1);
        check.due("not DRAWN while it was HOT", x.shell(soft, 0, DRAWN), 0);
        Bench.bring(x, soft, 1600);
        check.due("1 HARD is enough", x.shell(soft, 0, DRAWN), 1);
    }

    private static void drawingEdges() {
        HardShop x = new HardShop();
        int part = Bench.hotPart(x, 0, 0);
        x.step(part, -1000, 10);
        Bench.bring(x, part, 6499);
        int before = x.shell(part, 0, DRAWN);
        Bench.bring(x, part, 6500);
        check.due("50 at 6500", x.shell(part, 0, DRAWN), before + 50);
        Bench.bring(x, part, 6501);
        check.due("no more at 6501", x.shell(part, 0, DRAWN), before + 50);
    }

    private static void drawnAnew() {
        HardShop x = new HardShop();
        int part = Bench.hotPart(x, 0, 0);
        Bench.bring(x, part, 1700);
        check.due("500 HOT: DRAWN by what 1700 tells", x.shell(part, 0, DRAWN), 2);
        check.due("500 HOT indeed", x.shell(part, 0, HOT), 500);
        Bench.bring(x, part, 6400);
        int drawn = x.shell(part, 0, DRAWN);
        check.that("drawn more on the way up", drawn > 49);
        Bench.bring(x, part, 7309);
        check.due("still 500 HOT", x.shell(part, 0, HOT), 500);
        check.due("DRAWN is kept at 500 HOT", x.shell(part, 0, DRAWN), drawn);
        Bench.bring(x, part, 7310);
        check.due("501 HOT", x.shell(part, 0, HOT), 501);
        check.due("DRAWN is 0 above 500 HOT", x.shell(part, 0, DRAWN), 0);
        hotAboveHalfIsNeverDrawn();
    }

    private static void hotAboveHalfIsNeverDrawn() {
        HardShop x = new HardShop();
        int part = Bench.hotPart(x, 0, 0);
        Bench.bring(x, part, 2000);
        check.due("384 HARD at 2000", x.shell(part, 0, HARD), 384);
        x.step(part, 2000, 5);
        check.due("616 HOT: not DRAWN", x.shell(part, 0, DRAWN), 0);
    }

    private static void hardnessOfKinds() {
        HardShop x = new HardShop();
        int part = Bench.hotPart(x, 7, 9);
        check.due("all HOT", x.shell(part, 0, HARDNESS), 200);
        Bench.bring(x, part, 7300);
        check.due("(200 993 + 250 7) by 1000, cut", x.shell(part, 0, HARDNESS), 200);
        x.step(part, 7300, 17);
        check.due("126 LAMELLAR", x.shell(part, 0, LAMELLAR), 126);
        check.due("(200 874 + 250 126) by 1000, cut", x.shell(part, 0, HARDNESS), 206);
        int tough = Bench.hotPart(x, 0, 100);
        Bench.bring(x, tough, 4000);
        x.step(tough, 4000, 10);
        check.due("all TOUGH", x.shell(tough, 0, HARDNESS), 450);
        int hard = Bench.hotPart(x, 0, 0);
        x.step(hard, -1000, 10);
        check.due("all HARD", x.shell(hard, 0, HARD), 1000);
        check.due("800 less DRAWN by 50", x.shell(hard, 0, HARDNESS), 800 - x.shell(hard, 0, DRAWN) / 50);
        Bench.bring(x, hard, 2500);
        int before = x.shell(hard, 0, DRAWN);
        x.step(hard, 2500, 104 - before / 10);
        int drawn = x.shell(hard, 0, DRAWN);
        check.due("10 a step", drawn, before + 10 * (104 - before / 10));
        check.due("20 softer at 1040 and more", x.shell(hard, 0, HARDNESS), 780);
    }

    private static void hardnessWornAtMost() {
        HardShop x = new HardShop();
        int part = Bench.hotPart(x, 0, 0);
        x.step(part, -1000, 10);
        Bench.bring(x, part, 6500);
        x.step(part, 6500, 200);
        int drawn = x.shell(part, 0, DRAWN);
        check.due("200 softer and more", x.shell(part, 0, HARDNESS), 800 - drawn / 50);
        x.step(part, 6500, 200);
        check.that("DRAWN goes on", x.shell(part, 0, DRAWN) >= 20000);
        check.due("never below 400", x.shell(part, 0, HARDNESS), 400);
        x.step(part, 6500, 200);
        check.due("never below 400 later", x.shell(part, 0, HARDNESS), 400);
    }

    private static void shellRefusals() {
        HardShop x = new HardShop();
        x.part(2, 1, 1, 1, 0, 0);
        check.due("part -1", x.shell(-1, 0, 0), -100000);
        check.due("part 1", x.shell(1, 0, 0), -100000);
        check.due("shell -1", x.shell(0, -1, 0), -100000);
        check.due("shell 2", x.shell(0, 2, 0), -100000);
        check.due("what -1", x.shell(0, 0, -1), -100000);
        check.due("what 7", x.shell(0, 0, 7), -100000);
        check.due("shell 1", x.shell(0, 1, 0), 200);
        check.due("what 6", x.shell(0, 1, 6), 250);
    }

    private static void takenAndKept() {
        HardShop x = new HardShop();
        check.due("taken of none", x.taken(0), -9999999999L);
        check.due("kept of none", x.kept(0), 1);
        x.part(6, 1, 299, 293, 3, 5);
        check.due("taken at first", x.taken(0), 0);
        check.due("kept at first", x.kept(0), 0);
        check.due("taken of -1", x.taken(-1), -9999999999L);
        check.due("kept of -1", x.kept(-1), 1);
        x.step(0, 11999, 77);
        x.step(0, -777, 33);
        long all = 0;
        for (int i = 0; i < 6; i++) {
            all += x.shell(0, i, WARMTH);
        }
        check.due("taken is what the shells got", x.taken(0), all - 1200);
        check.due("kept is 0", x.kept(0), 0);
        check.due("taken of 1", x.taken(1), -9999999999L);
        check.due("kept of 1", x.kept(1), 1);
    }
}
