/** Runs of 512 calls on one object each, every answer beside that of the Model. */
public final class ModelTest {
    private static final int RUNS = 300, CALLS = 512;
    private static final int[] EDGES = {0, 1, 63, 64, 65, 127, 128, 129, 191, 192, 193, 254, 255};
    private static final int[] WRONG = {-1, 256, 300, Integer.MIN_VALUE, Integer.MAX_VALUE};

    private long seed;

    private ModelTest(long seed) {
        this.seed = seed;
    }

    public static void main(String[] args) {
        for (int run = 0; run < RUNS; run++) {
            new ModelTest(run).run(run);
        }
        Checks.end();
    }

    // The runs must be the same each time, so the numbers are made here.
    private int below(int bound) {
        seed = seed * 6364136223846793005L + 1442695040888963407L;
        return (int) ((seed >>> 33) % bound);
    }

    private int number(int count) {
        return below(24) == 0 ? below(12) - 2 : below(count);
    }

    private int value() {
        int kind = below(24);
        return kind == 0 ? WRONG[below(WRONG.length)] : kind < 12 ? EDGES[below(EDGES.length)] : below(256);
    }

    private void run(int run) {
        GamutChain x = new GamutChain();
        Model m = new Model();
        boolean steep = run % 2 == 0;
        for (int k = 0; k < CALLS; k++) {
            int call = k < 14 ? (k % 2) * 6 : below(21);
            // Signing stops most changes, so a signed chain is mostly released at the next turn.
            int a = call == 14 && below(3) > 0 ? 0 : number(call == 15 || call == 16 ? 6 : call == 17 ? 3 : steep ? 3 : 6);
            int b = number(call == 7 ? 8 : call == 18 ? 6 : 3);
            int c = call == 1 ? number(5) : value();
            int d = call == 18 ? number(8) : value();
            same("run " + run + ", call " + k + ": " + call + " with " + a + ", " + b + ", " + c + ", " + d,
                () -> ofModel(m, call, a, b, c, d), () -> ofClass(x, call, a, b, c, d));
        }
    }

    private static void same(String what, Checks.Call due, Checks.Call got) {
        String want = Checks.nameOf(due);
        String have = Checks.nameOf(got);
        Checks.yes(what + " answered " + have + ", due is " + want, want.equals(have));
    }

    private static long ofModel(Model m, int call, int a, int b, int c, int d) {
        return switch (call) {
            case 0 -> m.profile();
            case 1 -> m.bend(a, b, c, d);
            case 2 -> m.reach(a, b, c, d);
            case 3 -> m.way(a, b);
            case 4 -> m.curve(a, b, c);
            case 5 -> m.taken(a, b, c);
            case 6 -> m.chain();
            case 7 -> m.add(a, b);
            case 8 -> m.drop(a);
            case 9 -> m.through(a, b, c);
            case 10 -> m.gap(a);
            case 11 -> m.greyGap(a);
            case 12 -> m.join(a, c);
            case 13 -> m.joined(a, b, c);
            case 14 -> m.sign(a) ? 1 : 0;
            case 15 -> m.paint(a, b, c);
            case 16 -> m.spot(a, b, c);
            case 17 -> m.mix(a, b, c);
            case 18 -> m.shown(a, b, c % 3, d);
            case 19 -> m.stale();
            default -> m.held();
        };
    }

    private static long ofClass(GamutChain x, int call, int a, int b, int c, int d) {
        return switch (call) {
            case 0 -> x.profile();
            case 1 -> x.bend(a, b, c, d);
            case 2 -> x.reach(a, b, c, d);
            case 3 -> x.way(a, b);
            case 4 -> x.curve(a, b, c);
            case 5 -> x.taken(a, b, c);
            case 6 -> x.chain();
            case 7 -> x.add(a, b);
            case 8 -> x.drop(a);
            case 9 -> x.through(a, b, c);
            case 10 -> x.gap(a);
            case 11 -> x.greyGap(a);
            case 12 -> x.join(a, c);
            case 13 -> x.joined(a, b, c);
            case 14 -> x.sign(a) ? 1 : 0;
            case 15 -> x.paint(a, b, c);
            case 16 -> x.spot(a, b, c);
            case 17 -> x.mix(a, b, c);
            case 18 -> x.shown(a, b, c % 3, d);
            case 19 -> x.stale();
            default -> x.held();
        };
    }
}
