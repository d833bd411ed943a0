/** Promises 7 to 11 and 16: line, clear, load, unload, probe, about. */
public final class FurnacesTest {
    private static final Check check = new Check();
    private static final int RAMP = 0, SOAK = 1, QUENCH = 2, REST = 3;
    private static final int GAS = 0, ERROR = 1, RUNS = 2, LINE = 3, COUNTED = 4, MASS = 5, LINES = 6;

    public static void main(String[] args) {
        lineNumbers();
        lineRefusals();
        lineEdges();
        restLooksAtNoGoal();
        clearing();
        loading();
        loadRefusals();
        loadByMass();
        unloading();
        probeRefusals();
        probeStaysWithPlace();
        runningRefuses();
        aboutAll();
        aboutRefusals();
        check.end();
    }

    private static void lineNumbers() {
        HardShop x = new HardShop();
        for (int i = 1; i <= 8; i++) {
            check.due("line " + i, x.line(1, i % 4, 5000, 5), i);
        }
        check.due("line 9", x.line(1, REST, 0, 5), HardShop.FULL);
        check.due("BAD ahead of FULL", x.line(1, REST, 0, 501), HardShop.BAD);
        check.due("8 lines", x.about(1, LINES), 8);
        check.due("no lines of another", x.about(0, LINES), 0);
        check.due("line of another", x.line(0, REST, 0, 5), 1);
    }

    private static void lineRefusals() {
        HardShop x = new HardShop();
        check.due("furnace -1", x.line(-1, RAMP, 5000, 5), HardShop.BAD);
        check.due("furnace 3", x.line(3, RAMP, 5000, 5), HardShop.BAD);
        check.due("op -1", x.line(0, -1, 5000, 5), HardShop.BAD);
        check.due("op 4", x.line(0, 4, 5000, 5), HardShop.BAD);
        for (int op = RAMP; op <= QUENCH; op++) {
            check.due("a 199 of " + op, x.line(0, op, 199, 5), HardShop.BAD);
            check.due("a 11001 of " + op, x.line(0, op, 11001, 5), HardShop.BAD);
        }
        for (int op = RAMP; op <= REST; op++) {
            check.due("b 0 of " + op, x.line(0, op, 5000, 0), HardShop.BAD);
            check.due("b too much of " + op, x.line(0, op, 5000, op == RAMP ? 1001 : 501), HardShop.BAD);
            check.due("b far too much of " + op, x.line(0, op, 5000, Integer.MAX_VALUE), HardShop.BAD);
        }
        check.due("refused lines change nothing", x.about(0, LINES), 0);
    }

    private static void lineEdges() {
        HardShop x = new HardShop();
        int lines = 0;
        for (int op = RAMP; op <= REST; op++) {
            check.due("least of " + op, x.line(2, op, 200, 1), ++lines);
            check.due("most of " + op, x.line(2, op, 11000, op == RAMP ? 1000 : 500), ++lines);
        }
    }

    private static void restLooksAtNoGoal() {
        HardShop x = new HardShop();
        check.due("rest, a 0", x.line(0, REST, 0, 1), 1);
        check.due("rest, a far below", x.line(0, REST, Integer.MIN_VALUE, 1), 2);
        check.due("rest, a far above", x.line(0, REST, Integer.MAX_VALUE, 1), 3);
    }

    private static void clearing() {
        HardShop x = new HardShop();
        check.due("clear none", x.clear(2), 0);
        x.line(2, REST, 0, 5);
        x.line(2, REST, 0, 5);
        x.line(1, REST, 0, 5);
        check.due("clear 2", x.clear(2), 2);
        check.due("none left", x.about(2, LINES), 0);
        check.due("another's stays", x.about(1, LINES), 1);
        check.due("cleared again", x.clear(2), 0);
        check.due("a line anew", x.line(2, REST, 0, 5), 1);
        check.due("clear -1", x.clear(-1), HardShop.BAD);
        check.due("clear 3", x.clear(3), HardShop.BAD);
        Bench.restingFurnace(x, 0, 2);
        x.run(0);
        check.due("clear while it RUNS", x.clear(0), HardShop.NO);
        check.due("the line stays", x.about(0, LINES), 1);
        x.stop(0);
        check.due("clear after it", x.clear(0), 1);
        check.due("without lines it can't run", x.run(0), HardShop.NO);
    }

    private static void loading() {
        HardShop x = new HardShop();
        for (int i = 0; i < 5; i++) {
            x.part(1, 100, 1, 1, 0, 0);
        }
        for (int place = 0; place < 4; place++) {
            check.due("load " + place, x.load(1, place, place), 1);
        }
        check.due("mass", x.about(1, MASS), 400);
        check.due("mass of another", x.about(0, MASS), 0);
        check.due("load into another", x.load(0, 3, 4), 1);
    }

    private static void loadRefusals() {
        HardShop x = new HardShop();
        x.part(1, 100, 1, 1, 0, 0);
        x.part(1, 100, 1, 1, 0, 0);
        check.due("furnace -1", x.load(-1, 0, 0), HardShop.BAD);
        check.due("furnace 3", x.load(3, 0, 0), HardShop.BAD);
        check.due("place -1", x.load(0, -1, 0), HardShop.BAD);
        check.due("place 4", x.load(0, 4, 0), HardShop.BAD);
        check.due("part -1", x.load(0, 0, -1), HardShop.BAD);
        check.due("part 2", x.load(0, 0, 2), HardShop.BAD);
        check.due("refused loads change nothing", x.about(0, MASS), 0);
        x.load(0, 0, 0);
        check.due("it is in this one", x.load(0, 1, 0), HardShop.NO);
        check.due("it is in another", x.load(1, 1, 0), HardShop.NO);
        check.due("the place is taken", x.load(0, 0, 1), HardShop.NO);
        check.due("BAD ahead of NO", x.load(0, 0, 7), HardShop.BAD);
        x.line(0, REST, 0, 5);
        x.run(0);
        check.due("it RUNS", x.load(0, 1, 1), HardShop.NO);
        check.due("another does not", x.load(1, 0, 1), 1);
        check.due("the first has one part", x.about(0, MASS), 100);
    }

    private static void loadByMass() {
        HardShop x = new HardShop();
        x.part(1, 600, 1, 1, 0, 0);
        x.part(1, 401, 1, 1, 0, 0);
        x.part(1, 400, 1, 1, 0, 0);
        x.part(1, 1, 1, 1, 0, 0);
        x.part(1, 1000, 1, 1, 0, 0);
        check.due("600", x.load(0, 0, 0), 1);
        check.due("1001", x.load(0, 1, 1), HardShop.NO);
        check.due("1000", x.load(0, 1, 2), 1);
        check.due("1001 by 1", x.load(0, 2, 3), HardShop.NO);
        check.due("mass 1000", x.about(0, MASS), 1000);
        x.unload(0, 0);
        check.due("mass 400", x.about(0, MASS), 400);
        check.due("801", x.load(0, 2, 1), 1);
        check.due("one of 1000", x.load(1, 3, 4), 1);
    }

    private static void unloading() {
        HardShop x = new HardShop();
        x.part(1, 100, 1, 1, 0, 0);
        x.part(1, 200, 1, 1, 0, 0);
        x.load(0, 2, 1);
        check.due("furnace -1", x.unload(-1, 2), HardShop.BAD);
        check.due("furnace 3", x.unload(3, 2), HardShop.BAD);
        check.due("place -1", x.unload(0, -1), HardShop.BAD);
        check.due("place 4", x.unload(0, 4), HardShop.BAD);
        check.due("none is there", x.unload(0, 1), HardShop.NO);
        check.due("none in another", x.unload(1, 2), HardShop.NO);
        x.line(0, REST, 0, 1);
        x.run(0);
        check.due("it RUNS", x.unload(0, 2), HardShop.NO);
        x.tick(1);
        check.due("its number", x.unload(0, 2), 1);
        check.due("out already", x.unload(0, 2), HardShop.NO);
        check.due("no mass", x.about(0, MASS), 0);
        check.due("in again", x.load(2, 0, 1), 1);
    }

    private static void probeRefusals() {
        HardShop x = new HardShop();
        check.due("furnace -1", x.probe(-1, 0, true, 0), HardShop.BAD);
        check.due("furnace 3", x.probe(3, 0, true, 0), HardShop.BAD);
        check.due("place -1", x.probe(0, -1, true, 0), HardShop.BAD);
        check.due("place 4", x.probe(0, 4, false, 0), HardShop.BAD);
        check.due("drift -501", x.probe(0, 0, true, -501), HardShop.BAD);
        check.due("drift 501", x.probe(0, 0, false, 501), HardShop.BAD);
        check.due("drift -500", x.probe(0, 0, true, -500), 1);
        check.due("drift 500", x.probe(2, 3, false, 500), 1);
    }

    private static void probeStaysWithPlace() {
        HardShop x = new HardShop();
        x.probe(0, 1, false, 0);
        x.part(1, 10, 1, 300, 0, 0);
        x.load(0, 1, 0);
        x.line(0, SOAK, 200, 5);
        x.run(0);
        x.tick(3);
        check.due("lost before the part came", x.about(0, COUNTED), 0);
        x.probe(0, 1, false, 501);
        x.probe(0, 1, true, 501);
        x.tick(1);
        check.due("a refused probe changes nothing", x.about(0, COUNTED), 0);
        x.probe(0, 1, true, 0);
        x.tick(2);
        check.due("live while it RUNS", x.about(0, COUNTED), 2);
        x.probe(0, 1, true, -101);
        x.tick(2);
        check.due("drift while it RUNS", x.about(0, COUNTED), 2);
    }

    private static void runningRefuses() {
        HardShop x = new HardShop();
        Bench.restingFurnace(x, 1, 3);
        x.run(1);
        check.due("line while it RUNS", x.line(1, REST, 0, 5), HardShop.NO);
        check.due("BAD ahead of it", x.line(1, REST, 0, 0), HardShop.BAD);
        check.due("line of another", x.line(0, REST, 0, 5), 1);
        for (int i = 0; i < 7; i++) {
            x.line(2, REST, 0, 5);
        }
        x.line(2, REST, 0, 5);
        x.part(1, 1, 1, 1, 0, 0);
        x.load(2, 0, 1);
        x.run(2);
        check.due("NO ahead of FULL", x.line(2, REST, 0, 5), HardShop.NO);
        x.tick(3);
        check.due("line after it", x.line(1, REST, 0, 5), 2);
    }

    private static void aboutAll() {
        HardShop x = new HardShop();
        x.part(1, 321, 1, 300, 0, 0);
        x.load(2, 1, 0);
        x.line(2, RAMP, 1000, 300);
        x.line(2, REST, 0, 4);
        x.survey(2, 17);
        x.run(2);
        x.tick(2);
        check.due("gas", x.about(2, GAS), 800);
        check.due("error", x.about(2, ERROR), 17);
        check.due("runs", x.about(2, RUNS), 1);
        check.due("line", x.about(2, LINE), 0);
        check.due("counted of a ramp", x.about(2, COUNTED), 0);
        check.due("mass", x.about(2, MASS), 321);
        check.due("lines", x.about(2, LINES), 2);
        x.tick(3);
        check.due("line 1", x.about(2, LINE), 1);
        check.due("counted of a rest", x.about(2, COUNTED), 2);
        x.stop(2);
        check.due("runs no more", x.about(2, RUNS), 0);
        check.due("no line", x.about(2, LINE), HardShop.NONE);
        check.due("nothing counted without a line", x.about(2, COUNTED), 0);
        check.due("gas stays", x.about(2, GAS), 1000);
    }

    private static void aboutRefusals() {
        HardShop x = new HardShop();
        check.due("furnace -1", x.about(-1, 0), HardShop.BAD);
        check.due("furnace 3", x.about(3, 0), HardShop.BAD);
        check.due("what -1", x.about(0, -1), HardShop.BAD);
        check.due("what 7", x.about(0, 7), HardShop.BAD);
    }
}
