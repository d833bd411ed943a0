/** Promises 23 and 24: count, digest. */
public final class CountsTest {
    private static final Check check = new Check();
    private static final int REST = 3;

    public static void main(String[] args) {
        counts();
        countRefusals();
        digestOfNew();
        digestOfPart();
        digestOfAll();
        digestChangesNothing();
        refusalsLeaveDigest();
        check.end();
    }

    private static HardShop busyShop() {
        HardShop x = new HardShop();
        for (int f = 0; f < 3; f++) {
            Bench.restingFurnace(x, f, 5);
        }
        x.part(6, 1000, 300, 300, 200, 200);
        x.run(0);
        x.stop(0);
        x.survey(0, 3);
        x.run(0);
        x.run(1);
        x.tick(4);
        x.job(5, 5);
        x.job(2, 0);
        x.step(3, 9000, 100);
        x.step(3, 1000, 9);
        return x;
    }

    private static void counts() {
        HardShop x = busyShop();
        check.due("parts", x.count(0), 4);
        check.due("runs", x.count(1), 3);
        check.due("running", x.count(2), 2);
        check.due("jobs", x.count(3), 2);
        check.due("in doubt", x.count(4), 1);
    }

    private static void countRefusals() {
        HardShop x = busyShop();
        check.due("-1", x.count(-1), HardShop.BAD);
        check.due("5", x.count(5), HardShop.BAD);
        check.due("far above", x.count(Integer.MAX_VALUE), HardShop.BAD);
        check.due("far below", x.count(Integer.MIN_VALUE), HardShop.BAD);
    }

    private static long digestOf(long... values) {
        long h = 139;
        for (long v : values) {
            h = 31 * h + v;
        }
        return h;
    }

    private static void digestOfNew() {
        long due = digestOf(0, 0, 0, 0, 0,
                200, 0, 0, -1, 0, 0, 0,
                200, 0, 0, -1, 0, 0, 0,
                200, 0, 0, -1, 0, 0, 0);
        check.due("of a new object", new HardShop().digest(), due);
    }

    private static void digestOfPart() {
        HardShop x = new HardShop();
        x.part(2, 7, 1, 300, 0, 0);
        x.step(0, 1200, 1);
        long due = digestOf(1, 0, 0, 0, 0,
                300, 500, 0, 1000, 0, 0, 0, 250, 200, 0, 1000, 0, 0, 0, 250,
                200, 0, 0, -1, 0, 0, 0,
                200, 0, 0, -1, 0, 0, 0,
                200, 0, 0, -1, 0, 0, 0);
        check.due("of a part", x.digest(), due);
    }

    private static int shellsOf(HardShop x, int part) {
        int shells = 0;
        while (x.shell(part, shells, 0) != -100000) {
            shells++;
        }
        return shells;
    }

    private static long digestByCalls(HardShop x) {
        long h = 139;
        for (int what = 0; what <= 4; what++) {
            h = 31 * h + x.count(what);
        }
        for (int p = 0; p < x.count(0); p++) {
            h = 31 * h + x.taken(p);
            for (int i = 0; i < shellsOf(x, p); i++) {
                for (int what = 0; what <= 6; what++) {
                    h = 31 * h + x.shell(p, i, what);
                }
            }
        }
        for (int f = 0; f < 3; f++) {
            for (int what = 0; what <= 6; what++) {
                h = 31 * h + x.about(f, what);
            }
        }
        for (int r = 0; r < x.count(1); r++) {
            for (int what = 0; what <= 4; what++) {
                h = 31 * h + x.runAt(r, what);
            }
        }
        return h;
    }

    private static void digestOfAll() {
        HardShop x = busyShop();
        check.due("of all", x.digest(), digestByCalls(x));
    }

    private static void digestChangesNothing() {
        HardShop x = busyShop();
        long before = x.digest();
        check.due("again", x.digest(), before);
        x.lateness();
        x.order(1);
        x.paper(0, 0, 1000);
        x.kept(3);
        check.due("after questions", x.digest(), before);
    }

    private static void refusalsLeaveDigest() {
        HardShop x = busyShop();
        long before = x.digest();
        x.part(0, 1, 1, 1, 0, 0);
        x.step(0, 500, 1);
        x.line(0, REST, 0, 1);
        x.clear(1);
        x.load(0, 1, 3);
        x.load(2, 0, 3);
        x.load(2, 1, 3);
        x.unload(0, 0);
        x.unload(2, 3);
        x.probe(0, 0, true, 501);
        x.run(0);
        x.tick(201);
        x.stop(2);
        x.survey(0, 9);
        x.job(0, 0);
        check.due("after refusals", x.digest(), before);
    }
}
