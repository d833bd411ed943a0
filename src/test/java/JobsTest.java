/** Promises 19 to 22: job, clearJobs, lateness, order. */
public final class JobsTest {
    private static final Check check = new Check();

    public static void main(String[] args) {
        numbers();
        refusals();
        clearing();
        latenessOfFew();
        earlyIsNotLess();
        shortestIsNotAlwaysFirst();
        firstByNumbers();
        orderEdges();
        greatest();
        againstAllOrders();
        check.end();
    }

    private static void numbers() {
        HardShop x = new HardShop();
        for (int i = 0; i < 7; i++) {
            check.due("job " + i, x.job(1 + i, 10 * i), i);
        }
        check.due("job 7", x.job(1, 0), HardShop.FULL);
        check.due("BAD ahead of FULL", x.job(0, 0), HardShop.BAD);
        check.due("7 jobs", x.count(3), 7);
    }

    private static void refusals() {
        HardShop x = new HardShop();
        check.due("time 0", x.job(0, 5), HardShop.BAD);
        check.due("time 1001", x.job(1001, 5), HardShop.BAD);
        check.due("due -1", x.job(5, -1), HardShop.BAD);
        check.due("due 10001", x.job(5, 10001), HardShop.BAD);
        check.due("refused jobs change nothing", x.count(3), 0);
        check.due("least", x.job(1, 0), 0);
        check.due("most", x.job(1000, 10000), 1);
    }

    private static void clearing() {
        HardShop x = new HardShop();
        check.due("none", x.clearJobs(), 0);
        x.job(9, 0);
        x.job(9, 0);
        check.due("two", x.clearJobs(), 2);
        check.due("none left", x.count(3), 0);
        check.due("no lateness", x.lateness(), 0);
        check.due("no order", x.order(0), HardShop.NONE);
        check.due("numbers anew", x.job(3, 1), 0);
        check.due("lateness of the new one", x.lateness(), 2);
        check.due("order of the new one", x.order(0), 0);
        check.due("one", x.clearJobs(), 1);
    }

    private static void latenessOfFew() {
        HardShop x = new HardShop();
        check.due("of none", x.lateness(), 0);
        x.job(5, 5);
        check.due("in time", x.lateness(), 0);
        x.job(3, 3);
        check.due("3, 5: 0 + 3", x.lateness(), 3);
        x.job(4, 4);
        check.due("3, 4, 5: 0 + 3 + 7", x.lateness(), 10);
        check.due("first", x.order(0), 1);
        check.due("second", x.order(1), 2);
        check.due("third", x.order(2), 0);
    }

    private static void earlyIsNotLess() {
        HardShop x = new HardShop();
        x.job(2, 10000);
        x.job(2, 1);
        check.due("1 late, the other early", x.lateness(), 1);
        check.due("first", x.order(0), 1);
    }

    private static void shortestIsNotAlwaysFirst() {
        HardShop x = new HardShop();
        x.job(1, 20);
        x.job(10, 10);
        check.due("none late", x.lateness(), 0);
        check.due("the long one", x.order(0), 1);
        check.due("the short one", x.order(1), 0);
        HardShop y = new HardShop();
        y.job(10, 8);
        y.job(1, 9);
        check.due("due first is not first", y.order(0), 1);
        check.due("0 + 3, not 2 + 2", y.lateness(), 3);
    }

    private static void firstByNumbers() {
        HardShop x = new HardShop();
        for (int i = 0; i < 7; i++) {
            x.job(5, 10000);
        }
        for (int i = 0; i < 7; i++) {
            check.due("like ones by numbers " + i, x.order(i), i);
        }
        HardShop y = new HardShop();
        y.job(4, 10000);
        y.job(4, 8);
        y.job(4, 4);
        check.due("0 can't be ahead of both", y.order(0), 2);
        check.due("nor between", y.order(1), 1);
        check.due("so it is last", y.order(2), 0);
        HardShop z = new HardShop();
        z.job(4, 10000);
        z.job(4, 12);
        z.job(4, 12);
        check.due("0 as early as can be", z.order(0), 0);
        check.due("then 1", z.order(1), 1);
        check.due("none late", z.lateness(), 0);
    }

    private static void orderEdges() {
        HardShop x = new HardShop();
        x.job(1, 1);
        check.due("0", x.order(0), 0);
        check.due("1", x.order(1), HardShop.NONE);
        check.due("7", x.order(7), HardShop.NONE);
        check.due("far above", x.order(Integer.MAX_VALUE), HardShop.NONE);
        check.due("-1", x.order(-1), HardShop.NONE);
        check.due("far below", x.order(Integer.MIN_VALUE), HardShop.NONE);
    }

    private static void greatest() {
        HardShop x = new HardShop();
        for (int i = 0; i < 7; i++) {
            x.job(1000, 0);
        }
        check.due("1000 + .. + 7000", x.lateness(), 28000);
    }

    private static void againstAllOrders() {
        java.util.Random random = new java.util.Random(139);
        for (int round = 0; round < 60; round++) {
            int n = 1 + round % 7;
            int span = round % 3 == 0 ? 5 : 40;
            int[] time = new int[n];
            int[] due = new int[n];
            HardShop x = new HardShop();
            for (int j = 0; j < n; j++) {
                time[j] = 1 + random.nextInt(span);
                due[j] = random.nextInt(span * 4);
                x.job(time[j], due[j]);
            }
            int[] best = AllOrders.best(time, due);
            check.due("lateness of round " + round, x.lateness(), AllOrders.lateness(time, due, best));
            for (int i = 0; i < n; i++) {
                check.due("order " + i + " of round " + round, x.order(i), best[i]);
            }
        }
    }
}
