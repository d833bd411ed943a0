import java.math.BigInteger;
import java.util.function.Consumer;

/** Promises 23 and 24: each count at none and at its most, and a digest that wraps around. */
public final class CountEdgesTest {
    private static final Check check = new Check();
    private static final int BAD = -2;
    private static final int PARTS = 0, RUNS = 1, RUNNING = 2, JOBS = 3, DOUBT = 4;

    public static void main(String[] args) {
        noneAtFirst();
        whatIsCounted();
        twelveParts();
        hundredRuns();
        threeThatRun();
        sevenJobs();
        hundredInDoubt();
        digestOfNone();
        digestOfTheFull();
        digestWrapsAround();
        digestTellsEach();
        check.end();
    }

    private static void noneAtFirst() {
        check.sentence("23: How many: none");
        HardShop x = new HardShop();
        for (int what = PARTS; what <= DOUBT; what++) {
            check.due("count " + what, x.count(what), 0);
        }
    }

    private static void whatIsCounted() {
        check.sentence("23: 0 PARTS .. 4 RUNS IN DOUBT. BAD");
        HardShop x = new HardShop();
        Scenes.running(x);
        int[] due = {5, 5, 2, 3, 1};
        check.due("-1", x.count(-1), BAD);
        check.due("5", x.count(5), BAD);
        for (int what = PARTS; what <= DOUBT; what++) {
            check.due("count " + what, x.count(what), due[what]);
        }
    }

    private static void twelveParts() {
        check.sentence("23: 0 PARTS");
        HardShop x = new HardShop();
        for (int i = 1; i <= 12; i++) {
            x.part(1, 1, 1, 1, 0, 0);
            check.due("of " + i, x.count(PARTS), i);
        }
        x.part(1, 1, 1, 1, 0, 0);
        check.due("12 at most", x.count(PARTS), 12);
        x.load(0, 0, 3);
        check.due("those in a furnace too", x.count(PARTS), 12);
    }

    private static void hundredRuns() {
        check.sentence("23: 1 RUNS");
        HardShop x = new HardShop();
        Scenes.hundred(x);
        check.due("100", x.count(RUNS), 100);
        x.run(0);
        check.due("100 at most", x.count(RUNS), 100);
    }

    private static void threeThatRun() {
        check.sentence("23: 2 FURNACES that RUN");
        HardShop x = new HardShop();
        for (int f = 0; f <= 2; f++) {
            Bench.restingFurnace(x, f, 2 + f);
            check.due("loaded alone", x.count(RUNNING), f);
            x.run(f);
            check.due("and begun", x.count(RUNNING), f + 1);
        }
        x.stop(1);
        check.due("one stopped", x.count(RUNNING), 2);
        x.tick(2);
        check.due("one at its end", x.count(RUNNING), 1);
        x.tick(2);
        check.due("none", x.count(RUNNING), 0);
        check.due("the runs are still counted", x.count(RUNS), 3);
    }

    private static void sevenJobs() {
        check.sentence("23: 3 JOBS");
        HardShop x = new HardShop();
        for (int i = 1; i <= 7; i++) {
            x.job(1, 1);
            check.due("of " + i, x.count(JOBS), i);
        }
        x.job(1, 1);
        check.due("7 at most", x.count(JOBS), 7);
        x.clearJobs();
        check.due("none", x.count(JOBS), 0);
    }

    private static void hundredInDoubt() {
        check.sentence("23: 4 RUNS IN DOUBT");
        HardShop x = new HardShop();
        Scenes.hundred(x);
        check.due("none", x.count(DOUBT), 0);
        x.survey(0, 0);
        check.due("none by a like one", x.count(DOUBT), 0);
        HardShop y = new HardShop();
        Scenes.hundred(y);
        y.survey(0, 1);
        check.due("100", y.count(DOUBT), 100);
        y.survey(0, 2);
        check.due("none counted twice", y.count(DOUBT), 100);
    }

    private static HardShop made(Consumer<HardShop> scene) {
        HardShop x = new HardShop();
        scene.accept(x);
        return x;
    }

    /** The document's sum with no bound, cut to 64 bits at its end; each part and run of a shop of its own, to stay below 512 calls. */
    private static long digestByCalls(Consumer<HardShop> scene) {
        HardShop x = made(scene);
        BigInteger h = BigInteger.valueOf(139);
        for (int what = 0; what <= 4; what++) {
            h = with(h, x.count(what));
        }
        for (int part = 0; part < x.count(0); part++) {
            h = withPart(h, made(scene), part);
        }
        for (int f = 0; f <= 2; f++) {
            for (int what = 0; what <= 6; what++) {
                h = with(h, x.about(f, what));
            }
        }
        for (int run = 0; run < x.count(1); run++) {
            HardShop y = made(scene);
            for (int what = 0; what <= 4; what++) {
                h = with(h, y.runAt(run, what));
            }
        }
        return h.longValue();
    }

    private static BigInteger withPart(BigInteger before, HardShop x, int part) {
        BigInteger h = with(before, x.taken(part));
        for (int i = 0; i < 6 && x.shell(part, i, 0) != -100000; i++) {
            for (int what = 0; what <= 6; what++) {
                h = with(h, x.shell(part, i, what));
            }
        }
        return h;
    }

    private static BigInteger with(BigInteger h, long v) {
        return h.multiply(BigInteger.valueOf(31)).add(BigInteger.valueOf(v));
    }

    private static void digestOf(String name, Consumer<HardShop> scene) {
        check.due(name, made(scene).digest(), digestByCalls(scene));
    }

    private static void digestOfNone() {
        check.sentence("24: of no PARTS and no RUNS");
        digestOf("a new object", Scenes::fresh);
    }

    private static void digestOfTheFull() {
        check.sentence("24: of 12 PARTS, and of 100 RUNS");
        digestOf("a full shop", Scenes::full);
        digestOf("a full and running shop", Scenes::fullRunning);
        digestOf("a hundred runs", Scenes::hundred);
    }

    private static void digestWrapsAround() {
        check.sentence("24: h = 31 h + v, wrapping around");
        digestOf("a quiet shop", Scenes::quiet);
        digestOf("a running shop", Scenes::running);
        digestOf("numbers below 0", CountEdgesTest::cold);
        HardShop x = made(CountEdgesTest::cold);
        check.that("taken below 0", x.taken(0) < 0);
        check.due("the same again", x.digest(), x.digest());
    }

    private static void cold(HardShop x) {
        x.part(6, 1, 300, 300, 0, 0);
        x.step(0, -1000, 200);
        x.survey(1, -500);
    }

    private static void unlike(String what, HardShop x, long before) {
        check.that(what + " tells in the digest", x.digest() != before);
    }

    private static void digestTellsEach() {
        check.sentence("24: for each v");
        HardShop x = new HardShop();
        long before = x.digest();
        x.part(1, 5, 1, 300, 0, 0);
        unlike("a part", x, before);
        before = x.digest();
        x.step(0, 1200, 1);
        unlike("a step", x, before);
        before = x.digest();
        x.line(2, 3, 0, 2);
        unlike("a line", x, before);
        before = x.digest();
        x.load(2, 1, 0);
        unlike("a mass", x, before);
        before = x.digest();
        x.run(2);
        unlike("a run", x, before);
        before = x.digest();
        x.tick(1);
        unlike("a tick", x, before);
        before = x.digest();
        x.stop(2);
        unlike("a stop", x, before);
        before = x.digest();
        x.survey(2, 1);
        unlike("a survey", x, before);
        before = x.digest();
        x.job(1, 1);
        unlike("a job", x, before);
    }
}
