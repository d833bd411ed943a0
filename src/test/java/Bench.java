/** Ways to bring parts and furnaces where a test wants them. */
final class Bench {
    private static final int FASTEST = 300;

    private Bench() {
    }

    /** A part of one shell that follows the gas as fast as a part can. */
    static int quickPart(HardShop x, int mass, int p, int b) {
        return x.part(1, mass, 1, FASTEST, p, b);
    }

    /** Steps a quick part straight toward a warmth, never beyond it, until it has it; answers how many steps. */
    static int bring(HardShop x, int part, int warmth) {
        int steps = 0;
        while (x.shell(part, 0, 0) != warmth && steps < 100) {
            int now = x.shell(part, 0, 0);
            int way = warmth - now;
            int beside = now + Integer.signum(way) * ((Math.abs(way) * 10 + 2) / 3);
            x.step(part, Math.max(-1000, Math.min(12000, beside)), 1);
            steps++;
        }
        return steps;
    }

    /** A quick part all HOT, at warmth 8000. */
    static int hotPart(HardShop x, int p, int b) {
        int part = quickPart(x, 1, p, b);
        x.step(part, 12000, 30);
        bring(x, part, 8000);
        return part;
    }

    /** A furnace with one part of mass 10 in place 0 and one line: REST of so many ticks. */
    static int restingFurnace(HardShop x, int furnace, int ticks) {
        int part = quickPart(x, 10, 0, 0);
        x.load(furnace, 0, part);
        x.line(furnace, 3, 0, ticks);
        return part;
    }
}
