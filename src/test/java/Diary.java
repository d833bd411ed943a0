import java.util.ArrayList;
import java.util.List;

/**
 * What a shop answers when it is asked for all there is to ask and then worked on, the same calls each time.
 * It brings to light what digest() does not tell: programs, probes, places, surveys, latest runs, jobs.
 */
final class Diary {
    private static final int SOAK = 1, REST = 3;
    private static final int FURNACES = 3, PLACES = 4, PARTS = 12, JOBS = 7;

    private final HardShop x;
    private final List<String> told = new ArrayList<>();

    private Diary(HardShop x) {
        this.x = x;
    }

    /** Some 280 calls, so that a shop may have had some 230 before. */
    static List<String> of(HardShop x) {
        Diary diary = new Diary(x);
        diary.questions();
        diary.ticks(8);
        diary.stopAll();
        diary.papers();
        diary.surveys();
        diary.papers();
        diary.programsFromTheirFirstLine();
        diary.slowSoaks();
        diary.places();
        diary.stepsOutside();
        diary.room();
        return diary.told;
    }

    private void ask(String name, Object... numbers) {
        Call call = new Call(name, numbers);
        told.add(call + " answered " + call.on(x));
    }

    private void questions() {
        for (int what = 0; what <= 4; what++) {
            ask("count", what);
        }
        ask("digest");
        ask("lateness");
        for (int i = 0; i < JOBS; i++) {
            ask("order", i);
        }
    }

    private void ticks(int n) {
        for (int i = 0; i < n; i++) {
            ask("tick", 1);
            ask("digest");
        }
    }

    private void stopAll() {
        for (int f = 0; f < FURNACES; f++) {
            ask("stop", f);
        }
    }

    private void papers() {
        for (int part = 0; part < PARTS; part++) {
            ask("paper", part, 0, 1000);
        }
    }

    private void surveys() {
        for (int f = 0; f < FURNACES; f++) {
            ask("survey", f, 77);
        }
    }

    private void programsFromTheirFirstLine() {
        for (int f = 0; f < FURNACES; f++) {
            ask("run", f);
        }
        ticks(25);
        stopAll();
    }

    /** Goals above the parts' warmths: each probe's drift tells by the tick at which the first one counts. */
    private void slowSoaks() {
        for (int f = 0; f < FURNACES; f++) {
            ask("clear", f);
            ask("line", f, SOAK, 1500, 500);
            ask("run", f);
        }
        ticks(20);
        stopAll();
    }

    private void places() {
        for (int f = 0; f < FURNACES; f++) {
            for (int place = 0; place < PLACES; place++) {
                ask("unload", f, place);
            }
        }
    }

    private void stepsOutside() {
        for (int part = 0; part < PARTS; part++) {
            ask("step", part, 9000, 3);
            ask("step", part, 100, 4);
        }
        ask("digest");
    }

    private void room() {
        ask("part", 2, 3, 4, 5, 6, 7);
        ask("line", 0, REST, 0, 1);
        ask("job", 2, 3);
        ask("lateness");
        for (int i = 0; i < JOBS; i++) {
            ask("order", i);
        }
        ask("clearJobs");
        ask("clear", 0);
    }
}
