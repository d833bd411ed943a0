/** Shops in the states in which calls are refused, each made with some two hundred calls at most. */
final class Scenes {
    private static final int RAMP = 0, SOAK = 1, QUENCH = 2, REST = 3;

    private Scenes() {
    }

    static void fresh(HardShop x) {
        // a new object is a scene as it is
    }

    /** Five parts, two furnaces loaded and with programs, the third one empty; none RUNS. */
    static void quiet(HardShop x) {
        x.part(3, 100, 200, 250, 5, 5);
        x.part(1, 50, 100, 300, 0, 0);
        x.part(2, 300, 150, 200, 10, 20);
        x.part(6, 1000, 300, 300, 200, 200);
        x.part(1, 10, 1, 300, 7, 9);
        x.step(4, 12000, 30);
        x.step(4, -1000, 9);
        x.load(0, 0, 0);
        x.load(0, 2, 1);
        x.probe(0, 0, true, 30);
        x.probe(0, 2, false, -20);
        x.line(0, RAMP, 900, 300);
        x.line(0, SOAK, 250, 3);
        x.line(0, QUENCH, 250, 2);
        x.line(0, REST, 0, 2);
        x.load(1, 3, 2);
        x.line(1, SOAK, 300, 4);
        x.run(1);
        x.tick(4);
        x.survey(1, 12);
        x.run(1);
        x.tick(40);
        x.run(0);
        x.tick(2);
        x.stop(0);
        x.job(5, 5);
        x.job(3, 3);
        x.job(4, 20);
    }

    /** As quiet, and furnaces 0 and 1 RUN. */
    static void running(HardShop x) {
        quiet(x);
        x.line(1, REST, 0, 400);
        x.run(1);
        x.tick(3);
        x.run(0);
        x.tick(4);
    }

    /** Furnace 0 has lines and no part, furnace 1 a part and no lines. */
    static void half(HardShop x) {
        x.part(1, 50, 100, 300, 0, 0);
        x.line(0, REST, 0, 3);
        x.load(1, 1, 0);
    }

    /** 12 parts, 8 lines of each furnace, all places of furnace 0 taken, each furnace with a mass of 1000, 7 jobs. */
    static void full(HardShop x) {
        int[] mass = {250, 250, 250, 250, 1000, 400, 600, 1, 1, 1, 1000, 1};
        for (int i = 0; i < mass.length; i++) {
            x.part(1 + i % 6, mass[i], 100 + i, 200 + i, i, 2 * i);
        }
        for (int place = 0; place < 4; place++) {
            x.load(0, place, place);
        }
        x.load(1, 2, 4);
        x.load(2, 0, 5);
        x.load(2, 3, 6);
        for (int f = 0; f < 3; f++) {
            for (int i = 0; i < 8; i++) {
                x.line(f, (f + i) % 4, 210 + 10 * i, (f + i) % 4 == RAMP ? 7 + i : 2);
            }
        }
        for (int i = 0; i < 7; i++) {
            x.job(1 + i * 5 % 7, 3 * i);
        }
    }

    /** As full, and all furnaces RUN. */
    static void fullRunning(HardShop x) {
        full(x);
        x.run(0);
        x.run(1);
        x.run(2);
        x.tick(3);
    }

    /** 100 runs, none of which goes on; furnaces 0 and 1 could run, furnace 2 has nothing. */
    static void hundred(HardShop x) {
        almostHundred(x);
        x.run(0);
        x.stop(0);
    }

    /** 100 runs, the last of which goes on in furnace 0. */
    static void hundredRunning(HardShop x) {
        almostHundred(x);
        x.run(0);
        x.tick(1);
    }

    private static void almostHundred(HardShop x) {
        for (int f = 0; f < 2; f++) {
            x.part(1 + f, 50, 100, 300, 0, 0);
            x.load(f, f, f);
            x.line(f, REST, 0, 3);
        }
        for (int i = 0; i < 99; i++) {
            x.run(0);
            x.stop(0);
        }
    }
}
