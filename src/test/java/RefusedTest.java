import java.util.List;
import java.util.function.Consumer;

/**
 * "Refused, changing nothing, the first of: BAD -2 a number is not as told; NO -3 as told; FULL -4."
 * Each call that is refused goes to one of two like shops alone, and both must go on alike behind it.
 */
public final class RefusedTest {
    private static final Check check = new Check();
    private static final int NONE = -1, BAD = -2, NO = -3, FULL = -4;
    private static final int BAD_SHELL = -100000, BAD_KEPT = 1;
    private static final long BAD_TAKEN = -9999999999L;
    private static final int RAMP = 0, SOAK = 1, QUENCH = 2, REST = 3;
    private static final int[] FURNACE = {0, 2}, PLACE = {0, 3};

    private static Consumer<HardShop> scene;

    public static void main(String[] args) {
        badAndQuestions("a new object", Scenes::fresh);
        badAndQuestions("a quiet shop", Scenes::quiet);
        badAndQuestions("a running shop", Scenes::running);
        badAndQuestions("a full shop", Scenes::full);
        badAndQuestions("a full and running shop", Scenes::fullRunning);
        badAndQuestions("a hundred runs", Scenes::hundred);
        noOfNewObject();
        noOfQuietShop();
        noOfRunningShop();
        noOfHalfFurnaces();
        fullOfFullShop();
        noAheadOfFull();
        fullOfHundredRuns();
        check.end();
    }

    private static void scene(String name, Consumer<HardShop> made) {
        check.sentence("refused in " + name);
        scene = made;
    }

    private static void refused(long due, String name, Object... numbers) {
        Call call = new Call(name, numbers);
        HardShop asked = new HardShop();
        scene.accept(asked);
        check.due(call.toString(), call.on(asked), due);
        changedNothing(call, asked);
    }

    private static void changedNothing(Call call, HardShop asked) {
        HardShop spared = new HardShop();
        scene.accept(spared);
        List<String> one = Diary.of(asked);
        List<String> other = Diary.of(spared);
        String unlike = "nothing";
        for (int i = 0; i < other.size() && unlike.equals("nothing"); i++) {
            unlike = one.get(i).equals(other.get(i)) ? unlike : one.get(i) + " and not as " + other.get(i);
        }
        check.that(call + " changes nothing, but: " + unlike, unlike.equals("nothing"));
    }

    /** Each number that has a range one too small, one too large, and far off, the others at their least and at their most. */
    private static void beyond(long due, String name, int[]... ranges) {
        for (int i = 0; i < ranges.length; i++) {
            if (ranges[i].length == 1) {
                continue;
            }
            int[] wrong = {ranges[i][0] - 1, ranges[i][1] + 1, Integer.MIN_VALUE, Integer.MAX_VALUE};
            for (int number : wrong) {
                refused(due, name, numbersWith(ranges, 0, i, number));
                refused(due, name, numbersWith(ranges, 1, i, number));
            }
        }
    }

    private static Object[] numbersWith(int[][] ranges, int end, int i, int number) {
        Object[] numbers = new Object[ranges.length];
        for (int j = 0; j < ranges.length; j++) {
            numbers[j] = j == i ? number : ranges[j][ranges[j].length == 1 ? 0 : end];
        }
        return numbers;
    }

    private static int[] only(int number) {
        return new int[] {number};
    }

    private static int[] to(int low, int high) {
        return new int[] {low, high};
    }

    private static void badAndQuestions(String name, Consumer<HardShop> made) {
        scene(name, made);
        HardShop x = new HardShop();
        made.accept(x);
        badParts(x.count(0));
        badLines();
        badFurnaces();
        badProbes();
        badJobsAndCounts();
        badRunsAndPapers(x.count(0), x.count(1));
        questions(x);
    }

    private static void badParts(int parts) {
        int[] part = {0, parts - 1};
        beyond(BAD, "part", to(1, 6), to(1, 1000), to(1, 300), to(1, 300), to(0, 200), to(0, 200));
        beyond(BAD, "step", part, to(-1000, 12000), to(1, 200));
        beyond(BAD_TAKEN, "taken", part);
        beyond(BAD_KEPT, "kept", part);
        beyond(BAD_SHELL, "shell", part, only(0), to(0, 6));
        refused(BAD_SHELL, "shell", 0, -1, 0);
        refused(BAD_SHELL, "shell", 0, 6, 0);
        refused(BAD_SHELL, "shell", 0, Integer.MIN_VALUE, 6);
        refused(BAD_SHELL, "shell", 0, Integer.MAX_VALUE, 6);
        beyond(BAD, "load", FURNACE, PLACE, part);
    }

    private static void badLines() {
        beyond(BAD, "line", FURNACE, to(RAMP, REST), only(300), only(1));
        beyond(BAD, "line", FURNACE, only(RAMP), to(200, 11000), to(1, 1000));
        beyond(BAD, "line", FURNACE, only(SOAK), to(200, 11000), to(1, 500));
        beyond(BAD, "line", FURNACE, only(QUENCH), to(200, 11000), to(1, 500));
        beyond(BAD, "line", FURNACE, only(REST), only(0), to(1, 500));
    }

    private static void badFurnaces() {
        beyond(BAD, "clear", FURNACE);
        beyond(BAD, "unload", FURNACE, PLACE);
        beyond(BAD, "run", FURNACE);
        beyond(BAD, "tick", to(1, 200));
        beyond(BAD, "stop", FURNACE);
        beyond(BAD, "survey", FURNACE, to(-500, 500));
        beyond(BAD, "about", FURNACE, to(0, 6));
    }

    private static void badProbes() {
        for (int furnace = 0; furnace <= 2; furnace++) {
            for (int place = 0; place <= 3; place++) {
                for (int drift : new int[] {-501, 501, Integer.MIN_VALUE, Integer.MAX_VALUE}) {
                    refused(BAD, "probe", furnace, place, drift > 0, drift);
                    refused(BAD, "probe", furnace, place, drift < 0, drift);
                }
            }
        }
        for (int far : new int[] {-1, Integer.MIN_VALUE, Integer.MAX_VALUE}) {
            refused(BAD, "probe", far, 0, false, 0);
            refused(BAD, "probe", 0, far, false, 0);
        }
        refused(BAD, "probe", 3, 0, false, 0);
        refused(BAD, "probe", 0, 4, false, 0);
    }

    private static void badJobsAndCounts() {
        beyond(BAD, "job", to(1, 1000), to(0, 10000));
        beyond(BAD, "count", to(0, 4));
    }

    private static void badRunsAndPapers(int parts, int runs) {
        for (int what : new int[] {-1, 5, Integer.MIN_VALUE, Integer.MAX_VALUE}) {
            refused(BAD, "runAt", 0, what);
            refused(BAD, "runAt", runs, what);
        }
        refused(BAD, "runAt", -1, 0);
        refused(BAD, "runAt", Integer.MIN_VALUE, 4);
        refused(NONE, "runAt", runs, 0);
        refused(NONE, "runAt", Integer.MAX_VALUE, 4);
        for (int part : new int[] {-1, parts, Integer.MIN_VALUE, Integer.MAX_VALUE}) {
            refused(BAD, "paper", part, 0, 1000);
        }
        refused(BAD, "paper", 0, 1, 0);
        refused(BAD, "paper", 0, Integer.MAX_VALUE, Integer.MIN_VALUE);
    }

    /** A question that is answered changes nothing either. */
    private static void questions(HardShop x) {
        String[] names = {"lateness", "digest", "order", "order", "order", "count", "taken", "kept", "shell", "shell",
            "about", "about", "runAt", "paper", "paper"};
        Object[][] numbers = {{}, {}, {0}, {-1}, {7}, {2}, {0}, {0}, {0, 0, 6}, {1, 0, 0},
            {0, 4}, {1, 0}, {0, 2}, {0, 0, 1000}, {1, 300, 300}};
        for (int i = 0; i < names.length; i++) {
            refused(new Call(names[i], numbers[i]).on(x), names[i], numbers[i]);
        }
    }

    private static void noOfNewObject() {
        scene("a new object", Scenes::fresh);
        for (int f = 0; f <= 2; f++) {
            refused(NO, "run", f);
            refused(NO, "stop", f);
            for (int place = 0; place <= 3; place++) {
                refused(NO, "unload", f, place);
            }
        }
    }

    private static void noOfQuietShop() {
        scene("a quiet shop", Scenes::quiet);
        for (int part = 0; part <= 2; part++) {
            refused(NO, "step", part, 900, 1);
            refused(NO, "step", part, 12000, 200);
        }
        refused(NO, "load", 0, 1, 0);
        refused(NO, "load", 2, 0, 0);
        refused(NO, "load", 0, 0, 0);
        refused(NO, "load", 0, 0, 4);
        refused(NO, "load", 0, 2, 4);
        refused(NO, "load", 0, 1, 3);
        refused(NO, "load", 1, 0, 3);
        refused(NO, "unload", 0, 1);
        refused(NO, "unload", 0, 3);
        refused(NO, "unload", 1, 2);
        refused(NO, "unload", 2, 0);
        refused(NO, "run", 2);
        for (int f = 0; f <= 2; f++) {
            refused(NO, "stop", f);
        }
    }

    private static void noOfRunningShop() {
        scene("a running shop", Scenes::running);
        for (int f = 0; f <= 1; f++) {
            for (int op = RAMP; op <= REST; op++) {
                refused(NO, "line", f, op, 300, 2);
            }
            refused(NO, "clear", f);
            refused(NO, "load", f, 1, 4);
            refused(NO, "run", f);
            refused(NO, "survey", f, 5);
            refused(NO, "survey", f, -500);
        }
        refused(NO, "survey", 0, 0);
        refused(NO, "survey", 1, 12);
        refused(NO, "unload", 0, 0);
        refused(NO, "unload", 0, 2);
        refused(NO, "unload", 0, 1);
        refused(NO, "unload", 1, 3);
        refused(NO, "step", 0, 900, 1);
        refused(NO, "step", 2, 900, 1);
        refused(NO, "stop", 2);
        refused(NO, "run", 2);
    }

    private static void noOfHalfFurnaces() {
        scene("furnaces with lines or a part alone", Scenes::half);
        refused(NO, "run", 0);
        refused(NO, "run", 1);
        refused(NO, "run", 2);
    }

    private static void fullOfFullShop() {
        scene("a full shop", Scenes::full);
        refused(FULL, "part", 1, 1, 1, 1, 0, 0);
        refused(FULL, "part", 6, 1000, 300, 300, 200, 200);
        refused(FULL, "job", 1, 0);
        refused(FULL, "job", 1000, 10000);
        for (int f = 0; f <= 2; f++) {
            refused(FULL, "line", f, RAMP, 11000, 1000);
            refused(FULL, "line", f, SOAK, 200, 1);
            refused(FULL, "line", f, QUENCH, 11000, 500);
            refused(FULL, "line", f, REST, 0, 1);
        }
        for (int place = 0; place <= 3; place++) {
            refused(NO, "load", 0, place, 7);
            refused(NO, "load", 1, place, 7);
            refused(NO, "load", 2, place, 10);
        }
    }

    private static void noAheadOfFull() {
        scene("a full and running shop", Scenes::fullRunning);
        for (int f = 0; f <= 2; f++) {
            refused(NO, "line", f, REST, 0, 1);
            refused(NO, "clear", f);
            refused(NO, "run", f);
        }
        scene("a hundred runs, the last one going on", Scenes::hundredRunning);
        refused(NO, "run", 0);
        refused(FULL, "run", 1);
        refused(NO, "run", 2);
    }

    private static void fullOfHundredRuns() {
        scene("a hundred runs", Scenes::hundred);
        refused(FULL, "run", 0);
        refused(FULL, "run", 1);
        refused(NO, "run", 2);
    }
}
