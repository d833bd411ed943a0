/** Promises 19 to 22 and the terms of JOBS: the last number that is taken, the first that is refused, no JOB and 7 JOBS. */
public final class JobEdgesTest {
    private static final Check check = new Check();
    private static final int BAD = -2, FULL = -4, NONE = -1;

    public static void main(String[] args) {
        sevenJobs();
        timeOneToThousand();
        dueNoneToTenThousand();
        clearJobsHowMany();
        clearJobsAnew();
        latenessOfNone();
        latenessOfOne();
        latenessIsNeverBelowNone();
        latenessTogether();
        latenessAtMost();
        orderOfNone();
        orderNotSoMany();
        orderOfAll();
        ofLikeOnesTheFirst();
        refusedJobsAreNotInTheOrder();
        askingInAnyTurn();
        check.end();
    }

    private static void sevenJobs() {
        check.sentence("JOBS 0 .. 6; 19: its number, FULL: 7");
        HardShop x = new HardShop();
        for (int i = 0; i <= 6; i++) {
            check.due("jobs so far", x.count(3), i);
            check.due("job " + i, x.job(1 + i, 10 * i), i);
        }
        check.due("an eighth", x.job(1, 0), FULL);
        check.due("and again", x.job(1000, 10000), FULL);
        check.due("BAD ahead of FULL", x.job(1, -1), BAD);
        check.due("7 jobs", x.count(3), 7);
    }

    private static void timeOneToThousand() {
        check.sentence("a time (1 .. 1000)");
        HardShop x = new HardShop();
        check.due("0", x.job(0, 0), BAD);
        check.due("-1", x.job(-1, 0), BAD);
        check.due("1001", x.job(1001, 0), BAD);
        check.due("none by it", x.count(3), 0);
        check.due("1", x.job(1, 0), 0);
        check.due("1 late", x.lateness(), 1);
        x.clearJobs();
        check.due("1000", x.job(1000, 0), 0);
        check.due("1000 late", x.lateness(), 1000);
    }

    private static void dueNoneToTenThousand() {
        check.sentence("are due (0 .. 10000)");
        HardShop x = new HardShop();
        check.due("-1", x.job(1, -1), BAD);
        check.due("10001", x.job(1, 10001), BAD);
        check.due("none by it", x.count(3), 0);
        check.due("0", x.job(1, 0), 0);
        check.due("10000", x.job(1, 10000), 1);
        check.due("lateness", x.lateness(), 1);
    }

    private static void clearJobsHowMany() {
        check.sentence("20: All JOBS go: how many");
        HardShop x = new HardShop();
        for (int n = 0; n <= 7; n++) {
            for (int i = 0; i < n; i++) {
                x.job(5, 5);
            }
            check.due("of " + n, x.clearJobs(), n);
            check.due("none left of " + n, x.count(3), 0);
            check.due("no lateness left of " + n, x.lateness(), 0);
            check.due("no order left of " + n, x.order(0), NONE);
        }
    }

    private static void clearJobsAnew() {
        check.sentence("20: All JOBS go: numbers from 0 on");
        HardShop x = new HardShop();
        for (int i = 0; i < 7; i++) {
            x.job(1000, 0);
        }
        x.clearJobs();
        check.due("0", x.job(3, 1), 0);
        check.due("1", x.job(2, 1), 1);
        check.due("(2 - 1) + (5 - 1)", x.lateness(), 5);
        check.due("first", x.order(0), 1);
        check.due("second", x.order(1), 0);
        check.due("no third", x.order(2), NONE);
    }

    private static void latenessOfNone() {
        check.sentence("21: THE ORDER's LATENESS: of no JOBS");
        check.due("none", new HardShop().lateness(), 0);
    }

    private static void latenessOfOne() {
        check.sentence("LATENESS: by how much each ends behind what is due");
        int[] due = {0, 9, 10, 11, 10000};
        int[] late = {10, 1, 0, 0, 0};
        for (int i = 0; i < due.length; i++) {
            HardShop x = new HardShop();
            x.job(10, due[i]);
            check.due("10 due at " + due[i], x.lateness(), late[i]);
        }
    }

    private static void latenessIsNeverBelowNone() {
        check.sentence("LATENESS: by how much each ends behind: one ahead of it takes nothing off");
        HardShop x = new HardShop();
        x.job(10, 5);
        x.job(10, 10000);
        check.due("5 and 0", x.lateness(), 5);
    }

    private static void latenessTogether() {
        check.sentence("each ends when it and all before it took their time; .. together");
        HardShop x = new HardShop();
        int[] late = {1, 3, 6, 10, 15, 21, 28};
        for (int i = 0; i < 7; i++) {
            x.job(1, 0);
            check.due("of " + (i + 1), x.lateness(), late[i]);
        }
    }

    private static void latenessAtMost() {
        check.sentence("21: THE ORDER's LATENESS: the most there is");
        HardShop x = new HardShop();
        for (int i = 0; i < 7; i++) {
            x.job(1000, 0);
        }
        check.due("1000 to 7000", x.lateness(), 28000);
        HardShop y = new HardShop();
        for (int i = 0; i < 7; i++) {
            y.job(1000, i == 0 ? 7000 : 6999);
        }
        check.due("just not late", y.lateness(), 0);
        check.due("the one with time is last", y.order(6), 0);
    }

    private static void orderOfNone() {
        check.sentence("22: NONE: not so many: of no JOBS");
        HardShop x = new HardShop();
        for (int i = -1; i <= 7; i++) {
            check.due("order " + i, x.order(i), NONE);
        }
    }

    private static void orderNotSoMany() {
        check.sentence("22: The i-th JOB of THE ORDER. NONE: not so many");
        HardShop x = new HardShop();
        for (int n = 1; n <= 7; n++) {
            x.job(1, 10000);
            check.due("the first of " + n, x.order(0), 0);
            check.due("the last of " + n, x.order(n - 1), n - 1);
            check.due("one more of " + n, x.order(n), NONE);
            check.due("-1 of " + n, x.order(-1), NONE);
        }
        check.due("far above", x.order(Integer.MAX_VALUE), NONE);
        check.due("far below", x.order(Integer.MIN_VALUE), NONE);
    }

    private static void orderOfAll() {
        check.sentence("An ORDER of all; THE ORDER: the least LATENESS");
        HardShop x = new HardShop();
        int[] time = {70, 60, 50, 40, 30, 20, 10};
        for (int of : time) {
            x.job(of, 0);
        }
        for (int i = 0; i < 7; i++) {
            check.due("the short ones first " + i, x.order(i), 6 - i);
        }
        HardShop y = new HardShop();
        for (int i = 0; i < 7; i++) {
            y.job(10, 70 - 10 * i);
        }
        check.due("just in time", y.lateness(), 0);
        for (int i = 0; i < 7; i++) {
            check.due("the due ones first " + i, y.order(i), 6 - i);
        }
    }

    private static void ofLikeOnesTheFirst() {
        check.sentence("of like ones the first by numbers");
        HardShop x = new HardShop();
        for (int i = 0; i < 7; i++) {
            x.job(5, 0);
        }
        for (int i = 0; i < 7; i++) {
            check.due("all alike " + i, x.order(i), i);
        }
        HardShop y = new HardShop();
        y.job(2, 3);
        y.job(1, 1);
        y.job(1, 1);
        check.due("0 + 1 + 1 either way", y.lateness(), 2);
        check.due("1 and 2 alike: 1", y.order(0), 1);
        check.due("then 2", y.order(1), 2);
        check.due("0 would be 1 worse ahead of 2", y.order(2), 0);
        HardShop z = new HardShop();
        z.job(4, 9);
        z.job(4, 4);
        z.job(4, 100);
        check.due("none late", z.lateness(), 0);
        check.due("1 first", z.order(0), 1);
        check.due("then 0", z.order(1), 0);
        check.due("then 2", z.order(2), 2);
        firstByTheFirstUnlike();
    }

    private static void firstByTheFirstUnlike() {
        HardShop x = new HardShop();
        x.job(1, 100);
        x.job(3, 3);
        x.job(1, 4);
        x.job(1, 5);
        int[] due = {1, 2, 3, 0};
        check.due("none late", x.lateness(), 0);
        for (int i = 0; i < 4; i++) {
            check.due("none free to be earlier " + i, x.order(i), due[i]);
        }
        HardShop y = new HardShop();
        y.job(1, 100);
        y.job(3, 4);
        y.job(1, 6);
        y.job(1, 6);
        int[] free = {0, 1, 2, 3};
        for (int i = 0; i < 4; i++) {
            check.due("free to be in their turn " + i, y.order(i), free[i]);
        }
    }

    private static void refusedJobsAreNotInTheOrder() {
        check.sentence("19: BAD, FULL: refused, changing nothing");
        HardShop x = new HardShop();
        for (int i = 0; i < 7; i++) {
            x.job(10, 10 * i);
        }
        int late = x.lateness();
        x.job(1, 0);
        x.job(0, 0);
        x.job(1, 10001);
        check.due("lateness", x.lateness(), late);
        for (int i = 0; i < 7; i++) {
            check.due("order " + i, x.order(i), i);
        }
    }

    private static void askingInAnyTurn() {
        check.sentence("21, 22: asked in any turn");
        HardShop x = new HardShop();
        x.job(5, 5);
        check.due("order ahead of lateness", x.order(0), 0);
        x.job(3, 3);
        check.due("order of the newest", x.order(0), 1);
        check.due("lateness behind it", x.lateness(), 3);
        check.due("lateness again", x.lateness(), 3);
        x.clearJobs();
        check.due("lateness of none", x.lateness(), 0);
    }
}
