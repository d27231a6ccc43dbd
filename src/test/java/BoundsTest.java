import java.util.function.IntUnaryOperator;

/**
 * The range of each argument of each call: every number in it is answered, and the one below it, the one above it, the
 * least and the greatest int are refused. Each number is tried on a new object.
 */
public final class BoundsTest {
    private static final String INDEX = Checks.INDEX, ARGUMENT = Checks.ARGUMENT;

    interface Use {
        long of(GamutChain x, int number);
    }

    private final Made.Maker maker;

    private BoundsTest(Made.Maker maker) {
        this.maker = maker;
    }

    public static void main(String[] args) {
        for (int count : new int[] {0, 1, 2, 7, 8}) {
            profilesOf(count);
        }
        for (int count : new int[] {0, 1, 2, 5, 6}) {
            chainsOf(count);
        }
        BoundsTest one = new BoundsTest(() -> Made.with(1, 1));
        one.bend();
        one.reach();
        reachFromLeastOn();
        one.way();
        one.reads();
        one.bandsOfChains();
        one.valuesOfChains();
        joinMost();
        joinedBandAndValue();
        one.paint();
        one.spot();
        one.mix();
        one.shown();
        farOff();
        Checks.end();
    }

    private void range(String what, int least, int greatest, String name, Use use, IntUnaryOperator due) {
        for (int n = least; n <= greatest; n++) {
            int number = n;
            Checks.due(what + " " + n, due.applyAsInt(n), Checks.answerOf(() -> use.of(maker.made(), number)));
        }
        for (int n : new int[] {least - 1, greatest + 1, Made.MIN, Made.MAX}) {
            GamutChain x = maker.made();
            Checks.thrown(what + " " + n, name, () -> use.of(x, n));
        }
    }

    // "Profiles are numbered from 0, at most 8"; "if there is no such profile".
    private static void profilesOf(int count) {
        BoundsTest some = new BoundsTest(() -> Made.with(count, 1));
        int last = count - 1;
        String of = " of " + count + " profiles, profile";
        some.range("bend" + of, 0, last, INDEX, (x, n) -> x.bend(n, 2, 3, 9), n -> 192);
        some.range("reach" + of, 0, last, INDEX, (x, n) -> x.reach(n, 1, 9, 9), n -> 256);
        some.range("way" + of, 0, last, INDEX, (x, n) -> x.way(n, 2), n -> 0);
        some.range("curve" + of, 0, last, INDEX, (x, n) -> x.curve(n, 2, 255), n -> 255);
        some.range("taken" + of, 0, last, INDEX, (x, n) -> x.taken(n, 2, 255), n -> 255);
        some.range("add" + of, 0, last, INDEX, (x, n) -> x.add(0, n), n -> 1);
        some.range("drop" + of, 0, last, INDEX, (x, n) -> x.add(0, n) * 0 + x.drop(0), n -> n);
    }

    // "Chains are numbered from 0, at most 6"; "if there is no such chain".
    private static void chainsOf(int count) {
        BoundsTest some = new BoundsTest(() -> Made.with(1, count));
        int last = count - 1;
        String of = " of " + count + " chains, chain";
        some.range("add" + of, 0, last, INDEX, (x, n) -> x.add(n, 0), n -> 1);
        some.range("drop" + of, 0, last, INDEX, (x, n) -> {
            if (n >= 0 && n < count) {
                x.add(n, 0);
            }
            return x.drop(n);
        }, n -> 0);
        some.range("through" + of, 0, last, INDEX, (x, n) -> x.through(n, 2, 255), n -> 255);
        some.range("gap" + of, 0, last, INDEX, GamutChain::gap, n -> 0);
        some.range("greyGap" + of, 0, last, INDEX, GamutChain::greyGap, n -> 0);
        some.range("join" + of, 0, last, INDEX, (x, n) -> x.join(n, 0), n -> 0);
        some.range("joined" + of, 0, last, INDEX, (x, n) -> {
            if (n >= 0 && n < count) {
                x.join(n, 0);
            }
            return x.joined(n, 2, 255);
        }, n -> 255);
        some.range("sign" + of, 0, last, INDEX, (x, n) -> x.sign(n) ? 1 : 0, n -> 1);
        some.range("shown" + of, 0, last, INDEX, (x, n) -> x.shown(n, 5, 2, 7), n -> 0);
    }

    // Promise 3: "band: 0 to 2", "place: 0 to 4", "value: 0 to 255".
    private void bend() {
        range("bend, band", 0, 2, INDEX, (x, n) -> x.bend(0, n, 0, 1), n -> 0);
        range("bend, place", 0, 4, INDEX, (x, n) -> x.bend(0, 0, n, 1), n -> Made.PLACES[n]);
        range("bend, value", 0, 255, ARGUMENT, (x, n) -> x.bend(0, 2, 4, n) * 0 + x.curve(0, 2, 255), n -> n);
    }

    // Promise 4: "band: 0 to 2", "least: 0 to 255", "greatest: least to 255".
    private void reach() {
        range("reach, band", 0, 2, INDEX, (x, n) -> x.reach(0, n, 9, 9), n -> 256);
        range("reach, least", 0, 255, ARGUMENT, (x, n) -> x.reach(0, 2, n, 255) * 0 + x.reach(0, 2, 0, 0), n -> 256 - n);
        range("reach, greatest", 0, 255, ARGUMENT, (x, n) -> x.reach(0, 2, 0, n) * 0 + x.reach(0, 2, 0, 0), n -> n + 1);
    }

    private static void reachFromLeastOn() {
        for (int least = 0; least < 256; least += least < 3 || least > 252 ? 1 : 50) {
            int l = least;
            BoundsTest some = new BoundsTest(() -> Made.with(1, 1));
            some.range("reach from " + l + ", greatest", l, 255, ARGUMENT,
                (x, n) -> x.reach(0, 0, l, n) * 0 + x.reach(0, 0, 0, 0), n -> n - l + 1);
            some.range("reach to " + l + ", least", 0, l, ARGUMENT,
                (x, n) -> x.reach(0, 0, n, l) * 0 + x.reach(0, 0, 0, 0), n -> l - n + 1);
        }
    }

    // Promise 5: "way: CUT, SQUEEZE or FOLD".
    private void way() {
        range("way", GamutChain.CUT, GamutChain.FOLD, ARGUMENT, (x, n) -> x.way(0, n) * 0 + x.way(0, 0), n -> n);
    }

    // Promises 6 and 7: "band: 0 to 2", "value: 0 to 255".
    private void reads() {
        range("curve, band", 0, 2, INDEX, (x, n) -> x.curve(0, n, 200), n -> 200);
        range("curve, value", 0, 255, ARGUMENT, (x, n) -> x.curve(0, 2, n), n -> n);
        range("taken, band", 0, 2, INDEX, (x, n) -> x.taken(0, n, 200), n -> 200);
        range("taken, value", 0, 255, ARGUMENT, (x, n) -> x.taken(0, 2, n), n -> n);
    }

    // Promise 11: "band: 0 to 2".
    private void bandsOfChains() {
        range("through, band", 0, 2, INDEX, (x, n) -> x.through(0, n, 200), n -> 200);
        range("through one, band", 0, 2, INDEX, (x, n) -> x.add(0, 0) * 0 + x.through(0, n, 200), n -> 200);
    }

    // Promise 11: "value: 0 to 255", without profiles too: "without profiles it stays".
    private void valuesOfChains() {
        range("through none, value", 0, 255, ARGUMENT, (x, n) -> x.through(0, 2, n), n -> n);
        range("through one, value", 0, 255, ARGUMENT, (x, n) -> x.add(0, 0) * 0 + x.through(0, 2, n), n -> n);
    }

    // Promise 14: "most: 0 to 255: how great its gap may be".
    private static void joinMost() {
        BoundsTest exact = new BoundsTest(() -> Made.with(0, 1));
        exact.range("join of an exact chain, most", 0, 255, ARGUMENT, (x, n) -> x.join(0, n), n -> 0);
        for (int most : new int[] {-1, 256, Made.MIN, Made.MAX}) {
            GamutChain x = Made.gapOfSixteen();
            Checks.thrown("join of a chain with a gap, most " + most, ARGUMENT, () -> x.join(0, most));
        }
    }

    // Promise 15: "band: 0 to 2", "value: 0 to 255".
    private static void joinedBandAndValue() {
        BoundsTest joined = new BoundsTest(() -> {
            GamutChain x = Made.with(0, 1);
            x.join(0, 0);
            return x;
        });
        joined.range("joined, band", 0, 2, INDEX, (x, n) -> x.joined(0, n, 200), n -> 200);
        joined.range("joined, value", 0, 255, ARGUMENT, (x, n) -> x.joined(0, 2, n), n -> n);
    }

    // Promise 19: "pixel: 0 to 5", "band: 0 to 2", "value: 0 to 255".
    private void paint() {
        range("paint, pixel", 0, 5, INDEX, (x, n) -> x.paint(n, 2, 9) + x.paint(n, 2, 0), n -> 9);
        range("paint, band", 0, 2, INDEX, (x, n) -> x.paint(5, n, 9) + x.paint(5, n, 0), n -> 9);
        range("paint, value", 0, 255, ARGUMENT, (x, n) -> x.paint(5, 2, n) + x.paint(5, 2, 0), n -> n);
    }

    // Promise 20: "pixel: 0 to 5", "ink: 0 to 2", "amount: 0 to 255".
    private void spot() {
        range("spot, pixel", 0, 5, INDEX, (x, n) -> x.spot(n, 2, 9) + x.spot(n, 2, 0), n -> 9);
        range("spot, ink", 0, 2, INDEX, (x, n) -> x.spot(5, n, 9) + x.spot(5, n, 0), n -> 9);
        range("spot, amount", 0, 255, ARGUMENT, (x, n) -> x.spot(5, 2, n) + x.spot(5, 2, 0), n -> n);
    }

    // Promise 21: "ink: 0 to 2", "band: 0 to 2", "value: 0 to 255".
    private void mix() {
        range("mix, ink", 0, 2, INDEX, (x, n) -> x.mix(n, 2, 9) + x.mix(n, 2, 0), n -> 9);
        range("mix, band", 0, 2, INDEX, (x, n) -> x.mix(2, n, 9) + x.mix(2, n, 0), n -> 9);
        range("mix, value", 0, 255, ARGUMENT, (x, n) -> x.mix(2, 2, n) + x.mix(2, 2, 0), n -> n);
    }

    // Promise 22: "pixel: 0 to 5", "band: 0 to 2", "inks: ... as a set, 0 to 7".
    private void shown() {
        range("shown, pixel", 0, 5, INDEX, (x, n) -> x.shown(0, n, 2, 0), n -> 0);
        range("shown, band", 0, 2, INDEX, (x, n) -> x.shown(0, 5, n, 0), n -> 0);
        range("shown, inks", 0, 7, ARGUMENT, (x, n) -> {
            for (int ink = 0; ink < 3; ink++) {
                x.spot(5, ink, 255);
                x.mix(ink, 2, 1 << ink);
            }
            return x.shown(0, 5, 2, n);
        }, n -> 7 - n);
    }

    // Arguments far off, all at once, and those that would meet another row if they were multiplied or wrapped round.
    private static void farOff() {
        for (int n : new int[] {Made.MIN, Made.MAX, Made.MIN + 1, 1 << 16, 1 << 30, -(1 << 30), 0x55555556, 256, -256}) {
            GamutChain x = Made.with(8, 6);
            x.join(0, 0);
            Checks.thrown("bend", INDEX, () -> x.bend(n, n, n, n));
            Checks.thrown("reach", INDEX, () -> x.reach(n, n, n, n));
            Checks.thrown("reach, least and greatest", ARGUMENT, () -> x.reach(0, 0, n, n));
            Checks.thrown("reach, far apart", ARGUMENT, () -> x.reach(0, 0, n, ~n));
            Checks.thrown("way", INDEX, () -> x.way(n, n));
            Checks.thrown("curve", INDEX, () -> x.curve(n, n, n));
            Checks.thrown("taken", INDEX, () -> x.taken(n, n, n));
            Checks.thrown("add", INDEX, () -> x.add(n, n));
            Checks.thrown("drop", INDEX, () -> x.drop(n));
            Checks.thrown("through", INDEX, () -> x.through(n, n, n));
            Checks.thrown("gap", INDEX, () -> x.gap(n));
            Checks.thrown("greyGap", INDEX, () -> x.greyGap(n));
            Checks.thrown("join", INDEX, () -> x.join(n, n));
            Checks.thrown("joined", INDEX, () -> x.joined(n, n, n));
            Checks.thrown("sign", INDEX, () -> x.sign(n) ? 1 : 0);
            Checks.thrown("paint", INDEX, () -> x.paint(n, n, n));
            Checks.thrown("spot", INDEX, () -> x.spot(n, n, n));
            Checks.thrown("mix", INDEX, () -> x.mix(n, n, n));
            Checks.thrown("shown", INDEX, () -> x.shown(n, n, n, n));
        }
    }
}
