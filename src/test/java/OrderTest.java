/** "Where two exceptions apply, the one that is listed first is thrown": each two that can apply at once, and all three. */
public final class OrderTest {
    private static final String INDEX = Checks.INDEX, ARGUMENT = Checks.ARGUMENT, STATE = Checks.STATE;
    private static final int[] NO_PROFILE = {-1, 1, 8, Made.MIN, Made.MAX};
    private static final int[] NO_CHAIN = {-1, 1, 6, Made.MIN, Made.MAX};
    private static final int[] NO_PIXEL = {-1, 6, Made.MIN, Made.MAX};
    private static final int[] NO_BAND = {-1, 3, Made.MIN, Made.MAX};
    private static final int[] NO_PLACE = {-1, 5, Made.MIN, Made.MAX};
    private static final int[] NO_VALUE = {-1, 256, Made.MIN, Made.MAX};
    private static final int[] NO_SET = {-1, 8, Made.MIN, Made.MAX};

    public static void main(String[] args) {
        bend();
        reach();
        way();
        curveAndTaken();
        addToHeld();
        addToFull();
        addToFullAndHeld();
        dropOfHeldAndEmpty();
        through();
        join();
        joined();
        paint();
        spot();
        mix();
        shown();
        Checks.end();
    }

    interface Call2 {
        long answer(int first, int second);
    }

    private static void each(String what, String name, int[] firsts, int[] seconds, Call2 call) {
        for (int first : firsts) {
            for (int second : seconds) {
                Checks.thrown(what + " with " + first + ", " + second, name, () -> call.answer(first, second));
            }
        }
    }

    private static void bend() {
        GamutChain x = Made.held();
        each("bend, profile and value", INDEX, NO_PROFILE, NO_VALUE, (p, v) -> x.bend(p, 0, 0, v));
        each("bend, band and value, held", INDEX, NO_BAND, NO_VALUE, (b, v) -> x.bend(0, b, 0, v));
        each("bend, place and value, held", INDEX, NO_PLACE, NO_VALUE, (p, v) -> x.bend(0, 0, p, v));
        each("bend, band and place, held", INDEX, NO_BAND, NO_PLACE, (b, p) -> x.bend(0, b, p, 0));
        for (int no : NO_VALUE) {
            Checks.thrown("bend, value, held", ARGUMENT, () -> x.bend(0, 2, 4, no));
        }
        Checks.thrown("bend, held", STATE, () -> x.bend(0, 2, 4, 255));
    }

    private static void reach() {
        GamutChain x = Made.held();
        each("reach, profile and least", INDEX, NO_PROFILE, NO_VALUE, (p, v) -> x.reach(p, 0, v, 255));
        each("reach, profile and greatest", INDEX, NO_PROFILE, NO_VALUE, (p, v) -> x.reach(p, 0, 0, v));
        each("reach, band and least, held", INDEX, NO_BAND, NO_VALUE, (b, v) -> x.reach(0, b, v, 255));
        each("reach, band and greatest, held", INDEX, NO_BAND, NO_VALUE, (b, v) -> x.reach(0, b, 0, v));
        each("reach, least and greatest, held", ARGUMENT, NO_VALUE, NO_VALUE, (l, g) -> x.reach(0, 0, l, g));
        for (int no : NO_VALUE) {
            Checks.thrown("reach, least, held", ARGUMENT, () -> x.reach(0, 2, no, 255));
            Checks.thrown("reach, greatest, held", ARGUMENT, () -> x.reach(0, 2, 0, no));
        }
        Checks.thrown("reach, crossed, no band, held", INDEX, () -> x.reach(0, 3, 255, 0));
        Checks.thrown("reach, crossed, held", ARGUMENT, () -> x.reach(0, 2, 255, 254));
        Checks.thrown("reach, held", STATE, () -> x.reach(0, 2, 255, 255));
    }

    private static void way() {
        GamutChain x = Made.held();
        each("way, profile and way", INDEX, NO_PROFILE, NO_BAND, x::way);
        for (int no : NO_BAND) {
            Checks.thrown("way, held", ARGUMENT, () -> x.way(0, no));
        }
        Checks.thrown("way, held", STATE, () -> x.way(0, GamutChain.FOLD));
    }

    private static void curveAndTaken() {
        GamutChain x = Made.held();
        each("curve, profile and value", INDEX, NO_PROFILE, NO_VALUE, (p, v) -> x.curve(p, 0, v));
        each("curve, band and value", INDEX, NO_BAND, NO_VALUE, (b, v) -> x.curve(0, b, v));
        each("taken, profile and value", INDEX, NO_PROFILE, NO_VALUE, (p, v) -> x.taken(p, 0, v));
        each("taken, band and value", INDEX, NO_BAND, NO_VALUE, (b, v) -> x.taken(0, b, v));
    }

    private static void addToHeld() {
        GamutChain x = Made.held();
        each("add, chain and profile", INDEX, NO_CHAIN, NO_PROFILE, x::add);
        for (int no : NO_PROFILE) {
            Checks.thrown("add, no profile, held", INDEX, () -> x.add(0, no));
        }
        Checks.thrown("add, held", STATE, () -> x.add(0, 0));
    }

    private static GamutChain full() {
        GamutChain x = Made.with(1, 1);
        for (int k = 0; k < 6; k++) {
            x.add(0, 0);
        }
        return x;
    }

    private static void addToFull() {
        GamutChain x = full();
        for (int no : NO_PROFILE) {
            Checks.thrown("add, no profile, full", INDEX, () -> x.add(0, no));
        }
        Checks.thrown("add, full", STATE, () -> x.add(0, 0));
    }

    private static void addToFullAndHeld() {
        GamutChain x = full();
        x.sign(0);
        Checks.thrown("add, no profile, full and held", INDEX, () -> x.add(0, 1));
        Checks.thrown("add, full and held", STATE, () -> x.add(0, 0));
    }

    private static void dropOfHeldAndEmpty() {
        GamutChain x = Made.with(0, 1);
        x.sign(0);
        Checks.thrown("drop, held and empty", STATE, () -> x.drop(0));
        for (int no : NO_CHAIN) {
            Checks.thrown("drop, no chain", INDEX, () -> x.drop(no));
        }
    }

    private static void through() {
        GamutChain x = Made.held();
        each("through, chain and value", INDEX, NO_CHAIN, NO_VALUE, (c, v) -> x.through(c, 0, v));
        each("through, band and value", INDEX, NO_BAND, NO_VALUE, (b, v) -> x.through(0, b, v));
    }

    private static void join() {
        GamutChain x = Made.gapOfSixteen();
        each("join, chain and most", INDEX, NO_CHAIN, NO_VALUE, x::join);
        for (int no : NO_VALUE) {
            Checks.thrown("join, most, and gap above it or not", ARGUMENT, () -> x.join(0, no));
        }
        Checks.thrown("join, gap", STATE, () -> x.join(0, 0));
    }

    private static void joined() {
        GamutChain x = Made.gapOfSixteen();
        each("joined, chain and value", INDEX, NO_CHAIN, NO_VALUE, (c, v) -> x.joined(c, 0, v));
        each("joined, band and value, not joined", INDEX, NO_BAND, NO_VALUE, (b, v) -> x.joined(0, b, v));
        for (int no : NO_BAND) {
            Checks.thrown("joined, band, not joined", INDEX, () -> x.joined(0, no, 0));
        }
        for (int no : NO_VALUE) {
            Checks.thrown("joined, value, not joined", ARGUMENT, () -> x.joined(0, 2, no));
        }
        Checks.thrown("joined, not joined", STATE, () -> x.joined(0, 2, 255));
    }

    private static void paint() {
        GamutChain x = new GamutChain();
        each("paint, pixel and value", INDEX, NO_PIXEL, NO_VALUE, (p, v) -> x.paint(p, 0, v));
        each("paint, band and value", INDEX, NO_BAND, NO_VALUE, (b, v) -> x.paint(0, b, v));
    }

    private static void spot() {
        GamutChain x = new GamutChain();
        each("spot, pixel and amount", INDEX, NO_PIXEL, NO_VALUE, (p, v) -> x.spot(p, 0, v));
        each("spot, ink and amount", INDEX, NO_BAND, NO_VALUE, (i, v) -> x.spot(0, i, v));
    }

    private static void mix() {
        GamutChain x = new GamutChain();
        each("mix, ink and value", INDEX, NO_BAND, NO_VALUE, (i, v) -> x.mix(i, 0, v));
        each("mix, band and value", INDEX, NO_BAND, NO_VALUE, (b, v) -> x.mix(0, b, v));
    }

    private static void shown() {
        GamutChain x = Made.held();
        each("shown, chain and inks", INDEX, NO_CHAIN, NO_SET, (c, s) -> x.shown(c, 0, 0, s));
        each("shown, pixel and inks", INDEX, NO_PIXEL, NO_SET, (p, s) -> x.shown(0, p, 0, s));
        each("shown, band and inks", INDEX, NO_BAND, NO_SET, (b, s) -> x.shown(0, 0, b, s));
        for (int no : NO_SET) {
            Checks.thrown("shown, inks", ARGUMENT, () -> x.shown(0, 0, 0, no));
        }
    }
}
