/** Promises 7 to 11 and 16 and the terms of FURNACES: the last number that is taken, the first that is refused, the empty and the full. */
public final class FurnaceEdgesTest {
    private static final Check check = new Check();
    private static final int BAD = -2, NO = -3, FULL = -4, NONE = -1;
    private static final int RAMP = 0, SOAK = 1, QUENCH = 2, REST = 3;
    private static final int GAS = 0, ERROR = 1, RUNS = 2, LINE = 3, COUNTED = 4, MASS = 5, LINES = 6;

    public static void main(String[] args) {
        threeFurnaces();
        furnacesAtFirst();
        eightLines();
        eightLinesAnew();
        whichOp();
        rampToWhat();
        rampByWhat();
        soakAndQuenchAtWhat();
        soakAndQuenchHowLong();
        restHowLong();
        lineWhileItRuns();
        clearHowMany();
        clearWhileItRuns();
        fourPlaces();
        loadOfOneThatIsIn();
        loadIntoAPlaceTaken();
        loadWhileItRuns();
        loadOfMassAbove1000();
        loadOfWhichPart();
        unloadOfNone();
        unloadWhileItRuns();
        unloadAnswersTheNumber();
        driftOfAProbe();
        probeOfWhichPlace();
        probeIsNeverNo();
        probesAtFirst();
        whatAboutAFurnace();
        aboutOneThatDoesNotRun();
        aboutTicksThatCount();
        check.end();
    }

    private static void threeFurnaces() {
        check.sentence("FURNACES 0 .. 2");
        HardShop x = new HardShop();
        for (int f = -1; f <= 3; f += 4) {
            check.due("line of " + f, x.line(f, REST, 0, 1), BAD);
            check.due("clear of " + f, x.clear(f), BAD);
            check.due("load of " + f, x.load(f, 0, 0), BAD);
            check.due("unload of " + f, x.unload(f, 0), BAD);
            check.due("probe of " + f, x.probe(f, 0, true, 0), BAD);
            check.due("run of " + f, x.run(f), BAD);
            check.due("stop of " + f, x.stop(f), BAD);
            check.due("survey of " + f, x.survey(f, 0), BAD);
            check.due("about of " + f, x.about(f, 0), BAD);
        }
        for (int f = 0; f <= 2; f++) {
            x.part(1, 10 + f, 1, 1, 0, 0);
            check.due("line of " + f, x.line(f, REST, 0, 1), 1);
            check.due("load of " + f, x.load(f, 0, f), 1);
            check.due("probe of " + f, x.probe(f, 0, true, 0), 1);
            check.due("survey of " + f, x.survey(f, 0), 0);
            check.due("run of " + f, x.run(f), f);
            check.due("mass of " + f, x.about(f, MASS), 10 + f);
            check.due("stop of " + f, x.stop(f), 0);
            check.due("unload of " + f, x.unload(f, 0), f);
            check.due("clear of " + f, x.clear(f), 1);
        }
    }

    private static void furnacesAtFirst() {
        check.sentence("have GAS (200 at first), an ERROR (0)");
        HardShop x = new HardShop();
        for (int f = 0; f <= 2; f++) {
            check.due("gas", x.about(f, GAS), 200);
            check.due("error", x.about(f, ERROR), 0);
            check.due("runs", x.about(f, RUNS), 0);
            check.due("mass", x.about(f, MASS), 0);
        }
    }

    private static void eightLines() {
        check.sentence("7: A LINE more of a FURNACE's PROGRAM: how many; FULL: 8");
        for (int f = 0; f <= 2; f++) {
            HardShop x = new HardShop();
            for (int i = 1; i <= 8; i++) {
                check.due("lines before", x.about(f, LINES), i - 1);
                check.due("line " + i, x.line(f, i % 4, 5000, 5), i);
            }
            for (int op = RAMP; op <= REST; op++) {
                check.due("a ninth", x.line(f, op, 5000, 5), FULL);
            }
            check.due("BAD ahead of FULL", x.line(f, 4, 5000, 5), BAD);
            check.due("8 lines", x.about(f, LINES), 8);
            check.due("none of another", x.about((f + 1) % 3, LINES), 0);
            check.due("room in another", x.line((f + 1) % 3, REST, 0, 5), 1);
        }
    }

    private static void eightLinesAnew() {
        check.sentence("7 and 8: 8 LINES, none, and 8 again");
        HardShop x = new HardShop();
        for (int times = 0; times < 3; times++) {
            for (int i = 1; i <= 8; i++) {
                check.due("line " + i, x.line(0, REST, 0, 1), i);
            }
            check.due("full", x.line(0, REST, 0, 1), FULL);
            check.due("all go", x.clear(0), 8);
            check.due("none left", x.clear(0), 0);
        }
    }

    private static void whichOp() {
        check.sentence("7: BAD: also op 0 .. 3");
        HardShop x = new HardShop();
        check.due("-1", x.line(0, -1, 5000, 5), BAD);
        check.due("4", x.line(0, 4, 5000, 5), BAD);
        check.due("none by it", x.about(0, LINES), 0);
        check.due("0", x.line(0, 0, 5000, 5), 1);
        check.due("3", x.line(0, 3, 5000, 5), 2);
    }

    private static void rampToWhat() {
        check.sentence("RAMP to a (200 .. 11000)");
        HardShop x = new HardShop();
        check.due("199", x.line(0, RAMP, 199, 5), BAD);
        check.due("11001", x.line(0, RAMP, 11001, 5), BAD);
        check.due("200", x.line(0, RAMP, 200, 5), 1);
        check.due("11000", x.line(0, RAMP, 11000, 5), 2);
    }

    private static void rampByWhat() {
        check.sentence("by b a TICK (1 .. 1000)");
        HardShop x = new HardShop();
        check.due("0", x.line(0, RAMP, 500, 0), BAD);
        check.due("-1", x.line(0, RAMP, 500, -1), BAD);
        check.due("1001", x.line(0, RAMP, 500, 1001), BAD);
        check.due("1", x.line(0, RAMP, 500, 1), 1);
        check.due("501", x.line(0, RAMP, 500, 501), 2);
        check.due("1000", x.line(0, RAMP, 500, 1000), 3);
    }

    private static void soakAndQuenchAtWhat() {
        check.sentence("7: a 200 .. 11000");
        for (int op = SOAK; op <= QUENCH; op++) {
            HardShop x = new HardShop();
            check.due("199 of " + op, x.line(0, op, 199, 5), BAD);
            check.due("0 of " + op, x.line(0, op, 0, 5), BAD);
            check.due("11001 of " + op, x.line(0, op, 11001, 5), BAD);
            check.due("200 of " + op, x.line(0, op, 200, 5), 1);
            check.due("11000 of " + op, x.line(0, op, 11000, 5), 2);
        }
    }

    private static void soakAndQuenchHowLong() {
        check.sentence("7: b 1 .. 500");
        for (int op = SOAK; op <= QUENCH; op++) {
            HardShop x = new HardShop();
            check.due("0 of " + op, x.line(0, op, 500, 0), BAD);
            check.due("501 of " + op, x.line(0, op, 500, 501), BAD);
            check.due("1000 of " + op, x.line(0, op, 500, 1000), BAD);
            check.due("1 of " + op, x.line(0, op, 500, 1), 1);
            check.due("500 of " + op, x.line(0, op, 500, 500), 2);
        }
    }

    private static void restHowLong() {
        check.sentence("7: a of REST not looked at, b 1 .. 500");
        HardShop x = new HardShop();
        check.due("b 0", x.line(0, REST, 0, 0), BAD);
        check.due("b 501", x.line(0, REST, 0, 501), BAD);
        check.due("b 0, a as others have it", x.line(0, REST, 500, 0), BAD);
        int lines = 0;
        for (int a : new int[] {0, -1, 199, 11001, Integer.MIN_VALUE, Integer.MAX_VALUE}) {
            check.due("a " + a, x.line(0, REST, a, 500), ++lines);
        }
        check.due("b 1", x.line(0, REST, 0, 1), ++lines);
    }

    private static void lineWhileItRuns() {
        check.sentence("7: NO: it RUNS");
        HardShop x = new HardShop();
        Bench.restingFurnace(x, 1, 2);
        x.run(1);
        check.due("at its beginning", x.line(1, REST, 0, 5), NO);
        x.tick(1);
        check.due("in its midst", x.line(1, SOAK, 500, 5), NO);
        check.due("BAD ahead of NO", x.line(1, SOAK, 199, 5), BAD);
        check.due("another does not", x.line(2, REST, 0, 5), 1);
        check.due("none by it", x.about(1, LINES), 1);
        check.due("it ends as it began", x.tick(1), 0);
        check.due("behind it", x.line(1, REST, 0, 5), 2);
        x.run(1);
        x.stop(1);
        check.due("behind a stop", x.line(1, REST, 0, 5), 3);
    }

    private static void clearHowMany() {
        check.sentence("8: All LINES of it go: how many");
        HardShop x = new HardShop();
        for (int n = 0; n <= 8; n++) {
            for (int i = 0; i < n; i++) {
                x.line(2, QUENCH, 300, 1);
            }
            check.due("of " + n, x.clear(2), n);
            check.due("none left of " + n, x.about(2, LINES), 0);
        }
        Bench.restingFurnace(x, 0, 1);
        x.clear(0);
        check.due("it can't RUN without", x.run(0), NO);
        x.line(0, QUENCH, 700, 1);
        x.run(0);
        x.tick(1);
        check.due("the new line alone", x.about(0, GAS), 700);
        check.due("and no more", x.about(0, RUNS), 0);
    }

    private static void clearWhileItRuns() {
        check.sentence("8: NO: it RUNS");
        HardShop x = new HardShop();
        Bench.restingFurnace(x, 0, 2);
        x.line(1, REST, 0, 1);
        x.run(0);
        check.due("it RUNS", x.clear(0), NO);
        check.due("another does not", x.clear(1), 1);
        x.tick(1);
        check.due("still", x.clear(0), NO);
        check.due("its line stays", x.about(0, LINES), 1);
        x.tick(1);
        check.due("no more", x.clear(0), 1);
    }

    private static void fourPlaces() {
        check.sentence("PLACES for 4 PARTS; 9: a PLACE (0 .. 3)");
        HardShop x = new HardShop();
        for (int i = 0; i < 5; i++) {
            x.part(1, 100 + i, 1, 1, 0, 0);
        }
        check.due("place -1", x.load(0, -1, 0), BAD);
        check.due("place 4", x.load(0, 4, 0), BAD);
        check.due("empty", x.about(0, MASS), 0);
        for (int place = 0; place <= 3; place++) {
            check.due("place " + place, x.load(0, place, place), 1);
        }
        check.due("all taken", x.about(0, MASS), 406);
        for (int place = 0; place <= 3; place++) {
            check.due("no room in " + place, x.load(0, place, 4), NO);
        }
        check.due("unload of place -1", x.unload(0, -1), BAD);
        check.due("unload of place 4", x.unload(0, 4), BAD);
        for (int place = 0; place <= 3; place++) {
            check.due("out of " + place, x.unload(0, place), place);
        }
        check.due("empty again", x.about(0, MASS), 0);
    }

    private static void loadOfOneThatIsIn() {
        check.sentence("9: NO: it is in one");
        HardShop x = new HardShop();
        x.part(1, 1, 1, 1, 0, 0);
        x.load(1, 1, 0);
        for (int f = 0; f <= 2; f++) {
            for (int place = 0; place <= 3; place++) {
                check.due("into " + f + ", " + place, x.load(f, place, 0), NO);
            }
        }
        check.due("where it was", x.unload(1, 1), 0);
        check.due("outside", x.load(2, 3, 0), 1);
        check.due("where it is", x.unload(2, 3), 0);
    }

    private static void loadIntoAPlaceTaken() {
        check.sentence("9: NO: the PLACE is taken");
        for (int place = 0; place <= 3; place++) {
            HardShop x = new HardShop();
            x.part(1, 1, 1, 1, 0, 0);
            x.part(1, 1, 1, 1, 0, 0);
            x.load(0, place, 0);
            check.due("taken", x.load(0, place, 1), NO);
            check.due("the one in it stays", x.unload(0, place), 0);
            check.due("free again", x.load(0, place, 1), 1);
            check.due("the other one is in it", x.unload(0, place), 1);
            x.load(0, place, 1);
            check.due("the place beside it", x.load(0, (place + 1) % 4, 0), 1);
            check.due("the same place of another", x.load(1, place, x.part(1, 1, 1, 1, 0, 0)), 1);
        }
    }

    private static void loadWhileItRuns() {
        check.sentence("9: NO: it RUNS");
        HardShop x = new HardShop();
        Bench.restingFurnace(x, 0, 2);
        int part = x.part(1, 1, 1, 1, 0, 0);
        x.run(0);
        check.due("it RUNS", x.load(0, 1, part), NO);
        check.due("BAD ahead of NO", x.load(0, 4, part), BAD);
        check.due("another does not", x.load(1, 1, part), 1);
        x.unload(1, 1);
        x.tick(2);
        check.due("no more", x.load(0, 1, part), 1);
    }

    private static void loadOfMassAbove1000() {
        check.sentence("9: NO: the MASS would be above 1000");
        HardShop x = new HardShop();
        int[] mass = {1000, 999, 1, 1, 998, 2};
        for (int of : mass) {
            x.part(1, of, 1, 1, 0, 0);
        }
        check.due("1000", x.load(0, 0, 0), 1);
        check.due("1001", x.load(0, 1, 2), NO);
        check.due("1000 stay", x.about(0, MASS), 1000);
        check.due("999", x.load(1, 0, 1), 1);
        check.due("1000", x.load(1, 1, 2), 1);
        check.due("1001", x.load(1, 2, 3), NO);
        x.unload(1, 1);
        check.due("1001 by 2", x.load(1, 1, 5), NO);
        check.due("1000 by the other 1", x.load(1, 1, 3), 1);
        check.due("998, 2: 1000", x.load(2, 0, 4) + x.load(2, 3, 5), 2);
        check.due("each has its own", x.about(2, MASS), 1000);
        x.unload(0, 0);
        check.due("room again", x.load(0, 3, 2), 1);
        quartersOf1000();
    }

    private static void quartersOf1000() {
        HardShop x = new HardShop();
        for (int i = 0; i < 4; i++) {
            x.part(1, i == 3 ? 251 : 250, 1, 1, 0, 0);
        }
        x.part(1, 250, 1, 1, 0, 0);
        for (int i = 0; i < 3; i++) {
            x.load(0, i, i);
        }
        check.due("1001 by four", x.load(0, 3, 3), NO);
        check.due("1000 by four", x.load(0, 3, 4), 1);
    }

    private static void loadOfWhichPart() {
        check.sentence("9: BAD");
        HardShop x = new HardShop();
        check.due("no part 0", x.load(0, 0, 0), BAD);
        x.part(1, 1, 1, 1, 0, 0);
        x.part(1, 1, 1, 1, 0, 0);
        check.due("-1", x.load(0, 0, -1), BAD);
        check.due("2", x.load(0, 0, 2), BAD);
        check.due("1", x.load(0, 0, 1), 1);
        check.due("0", x.load(0, 1, 0), 1);
        check.due("BAD ahead of NO", x.load(0, 0, 2), BAD);
    }

    private static void unloadOfNone() {
        check.sentence("10: NO: none is there");
        HardShop x = new HardShop();
        x.part(1, 1, 1, 1, 0, 0);
        x.load(1, 2, 0);
        for (int f = 0; f <= 2; f++) {
            for (int place = 0; place <= 3; place++) {
                check.due("of " + f + ", " + place, x.unload(f, place), f == 1 && place == 2 ? 0 : NO);
            }
        }
        check.due("it is out", x.unload(1, 2), NO);
    }

    private static void unloadWhileItRuns() {
        check.sentence("10: NO: it RUNS");
        HardShop x = new HardShop();
        Bench.restingFurnace(x, 0, 2);
        Bench.restingFurnace(x, 1, 2);
        x.run(0);
        check.due("it RUNS", x.unload(0, 0), NO);
        check.due("another does not", x.unload(1, 0), 1);
        x.tick(1);
        check.due("still", x.unload(0, 0), NO);
        x.tick(1);
        check.due("no more", x.unload(0, 0), 0);
    }

    private static void unloadAnswersTheNumber() {
        check.sentence("10: The PART of a PLACE goes out: its number");
        HardShop x = new HardShop();
        for (int i = 0; i < 12; i++) {
            x.part(1, 1, 1, 300, 0, 0);
        }
        for (int i = 0; i < 12; i++) {
            x.load(i % 3, i / 3, 11 - i);
        }
        for (int i = 0; i < 12; i++) {
            check.due("part " + i, x.unload(i % 3, i / 3), 11 - i);
            check.due("outside", x.step(11 - i, 1200, 1), 500);
        }
    }

    private static void driftOfAProbe() {
        check.sentence("a DRIFT (-500 .. 500)");
        HardShop x = new HardShop();
        for (int place = 0; place <= 3; place++) {
            check.due("-501", x.probe(0, place, true, -501), BAD);
            check.due("501", x.probe(0, place, false, 501), BAD);
            check.due("-500", x.probe(0, place, true, -500), 1);
            check.due("500", x.probe(0, place, false, 500), 1);
        }
    }

    private static void probeOfWhichPlace() {
        check.sentence("PROBES: in each PLACE one; 11: BAD");
        HardShop x = new HardShop();
        check.due("place -1", x.probe(0, -1, true, 0), BAD);
        check.due("place 4", x.probe(0, 4, true, 0), BAD);
        for (int f = 0; f <= 2; f++) {
            check.due("place 0", x.probe(f, 0, true, 0), 1);
            check.due("place 3", x.probe(f, 3, false, 0), 1);
        }
    }

    private static void probeIsNeverNo() {
        check.sentence("11: A PROBE is LOST or live, with a DRIFT: 1");
        HardShop x = new HardShop();
        check.due("without a part", x.probe(0, 0, false, 5), 1);
        check.due("the same again", x.probe(0, 0, false, 5), 1);
        Bench.restingFurnace(x, 0, 2);
        x.run(0);
        check.due("while it RUNS", x.probe(0, 0, true, -5), 1);
        check.due("BAD while it RUNS", x.probe(0, 0, true, 501), BAD);
    }

    private static void probesAtFirst() {
        check.sentence("a DRIFT (0 at first)");
        for (int f = 0; f <= 2; f++) {
            for (int place = 0; place <= 3; place++) {
                HardShop x = new HardShop();
                x.load(f, place, x.part(1, 1, 1, 1, 0, 0));
                x.line(f, SOAK, 300, 1);
                x.line(f, SOAK, 301, 1);
                x.run(f);
                x.tick(1);
                check.due("it tells 200 at " + f + ", " + place, x.about(f, LINE), 1);
                x.tick(9);
                check.due("and not 201", x.about(f, COUNTED), 0);
            }
        }
    }

    private static void whatAboutAFurnace() {
        check.sentence("16: Of a FURNACE: 0 .. 6. BAD");
        HardShop x = new HardShop();
        x.load(1, 0, x.part(1, 77, 1, 1, 0, 0));
        x.survey(1, -33);
        x.line(1, QUENCH, 900, 1);
        x.line(1, QUENCH, 950, 9);
        x.line(1, REST, 0, 1);
        x.run(1);
        x.tick(4);
        int[] due = {950, -33, 1, 1, 3, 77, 3};
        for (int what = 0; what <= 6; what++) {
            check.due("what " + what, x.about(1, what), due[what]);
        }
        check.due("what -1", x.about(1, -1), BAD);
        check.due("what 7", x.about(1, 7), BAD);
        check.due("furnace -1", x.about(-1, 6), BAD);
        check.due("furnace 3", x.about(3, 6), BAD);
    }

    private static void aboutOneThatDoesNotRun() {
        check.sentence("16: 3 its LINE (NONE: it does not)");
        HardShop x = new HardShop();
        Bench.restingFurnace(x, 0, 2);
        check.due("not yet", x.about(0, LINE), NONE);
        check.due("nothing counts", x.about(0, COUNTED), 0);
        x.run(0);
        check.due("at line 0", x.about(0, LINE), 0);
        x.tick(2);
        check.due("no more", x.about(0, LINE), NONE);
        check.due("nothing counts any more", x.about(0, COUNTED), 0);
        x.run(0);
        x.tick(1);
        x.stop(0);
        check.due("stopped", x.about(0, LINE), NONE);
        check.due("nothing counts behind a stop", x.about(0, COUNTED), 0);
    }

    private static void aboutTicksThatCount() {
        check.sentence("16: 4 TICKS that count of that LINE so far (RAMP: 0)");
        HardShop x = new HardShop();
        x.load(0, 0, x.part(1, 1, 1, 1, 0, 0));
        x.line(0, RAMP, 203, 1);
        x.line(0, SOAK, 200, 2);
        x.line(0, QUENCH, 200, 2);
        x.line(0, REST, 0, 2);
        x.run(0);
        int[] line = {0, 0, 0, 1, 1, 2, 2, 3, 3};
        int[] counted = {0, 0, 0, 0, 1, 0, 1, 0, 1};
        for (int ticks = 0; ticks < line.length; ticks++) {
            check.due("line behind " + ticks, x.about(0, LINE), line[ticks]);
            check.due("counted behind " + ticks, x.about(0, COUNTED), counted[ticks]);
            x.tick(1);
        }
        check.due("over", x.about(0, RUNS), 0);
    }
}
