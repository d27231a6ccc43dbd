/**
 * "A call that throws changes nothing": for each exception of each promise, an object with that call tells the same of
 * itself as one without it. The calls that ask alone change nothing either.
 */
public final class UnchangedTest {
    private static final String INDEX = Checks.INDEX, ARGUMENT = Checks.ARGUMENT, STATE = Checks.STATE;
    private static final int[] OUT_OF_INT = {-1, 8, 256, Made.MIN, Made.MAX};

    interface Use {
        long of(GamutChain x);
    }

    private static final Made.Maker SOME = () -> Made.busy(7, 5);
    private static final Made.Maker ALL = () -> Made.busy(8, 6);

    public static void main(String[] args) {
        Checks.yes("the state tells of a change", !State.of(SOME.made()).equals(State.of(ALL.made())));
        none();
        full();
        profiles();
        heldProfiles();
        chains();
        heldChains();
        joining();
        picture();
        asked();
        Checks.end();
    }

    private static void refused(Made.Maker maker, String what, String name, Use use) {
        GamutChain teased = maker.made();
        Checks.thrown(what, name, () -> use.of(teased));
        same(what, maker.made(), teased);
    }

    private static void same(String what, GamutChain plain, GamutChain teased) {
        Checks.yes("the state after " + what, State.of(plain).equals(State.of(teased)));
    }

    /** The empty case: an object as it is at first has no profile and no chain. */
    private static void none() {
        Made.Maker empty = GamutChain::new;
        refused(empty, "bend", INDEX, x -> x.bend(0, 0, 0, 9));
        refused(empty, "reach", INDEX, x -> x.reach(0, 0, 9, 9));
        refused(empty, "way", INDEX, x -> x.way(0, 1));
        refused(empty, "curve", INDEX, x -> x.curve(0, 0, 9));
        refused(empty, "taken", INDEX, x -> x.taken(0, 0, 9));
        refused(empty, "add", INDEX, x -> x.add(0, 0));
        refused(empty, "drop", INDEX, x -> x.drop(0));
        refused(empty, "through", INDEX, x -> x.through(0, 0, 9));
        refused(empty, "gap", INDEX, x -> x.gap(0));
        refused(empty, "greyGap", INDEX, x -> x.greyGap(0));
        refused(empty, "join", INDEX, x -> x.join(0, 255));
        refused(empty, "joined", INDEX, x -> x.joined(0, 0, 9));
        refused(empty, "sign", INDEX, x -> x.sign(0) ? 1 : 0);
        refused(empty, "shown", INDEX, x -> x.shown(0, 0, 0, 0));
        refused(() -> Made.with(0, 1), "add without a profile", INDEX, x -> x.add(0, 0));
        refused(() -> Made.with(1, 0), "add without a chain", INDEX, x -> x.add(0, 0));
        refused(() -> Made.with(1, 1), "drop of an empty chain", STATE, x -> x.drop(0));
        refused(() -> Made.with(1, 1), "joined before joining", STATE, x -> x.joined(0, 0, 9));
    }

    /** The full case: eight profiles, six chains, six profiles in chain 0. */
    private static void full() {
        refused(ALL, "a ninth profile", STATE, GamutChain::profile);
        refused(ALL, "a seventh chain", STATE, GamutChain::chain);
        refused(ALL, "a seventh profile in a chain", STATE, x -> x.add(0, 7));
        refused(ALL, "a bend of profile 8", INDEX, x -> x.bend(8, 2, 4, 9));
        refused(ALL, "reach of profile 8", INDEX, x -> x.reach(8, 2, 9, 9));
        refused(ALL, "way of profile 8", INDEX, x -> x.way(8, 2));
        refused(ALL, "add of profile 8", INDEX, x -> x.add(5, 8));
        refused(ALL, "add to chain 6", INDEX, x -> x.add(6, 0));
        refused(ALL, "drop of chain 6", INDEX, x -> x.drop(6));
        refused(ALL, "join of chain 6", INDEX, x -> x.join(6, 255));
        refused(ALL, "sign of chain 6", INDEX, x -> x.sign(6) ? 1 : 0);
    }

    private static void profiles() {
        for (int no : OUT_OF_INT) {
            refused(SOME, "bend, profile " + no, INDEX, x -> x.bend(no, 0, 0, 9));
            refused(SOME, "bend, band " + no, INDEX, x -> x.bend(1, no, 0, 9));
            refused(SOME, "bend, place " + no, INDEX, x -> x.bend(1, 0, no, 9));
            refused(SOME, "reach, profile " + no, INDEX, x -> x.reach(no, 0, 9, 9));
            refused(SOME, "reach, band " + no, INDEX, x -> x.reach(1, no, 9, 9));
            refused(SOME, "way, profile " + no, INDEX, x -> x.way(no, 0));
            refused(SOME, "way " + no, ARGUMENT, x -> x.way(1, no));
            refused(SOME, "curve, profile " + no, INDEX, x -> x.curve(no, 0, 9));
            refused(SOME, "taken, band " + no, INDEX, x -> x.taken(1, no, 9));
        }
        for (int no : new int[] {-1, 256, Made.MIN, Made.MAX}) {
            refused(SOME, "bend, value " + no, ARGUMENT, x -> x.bend(1, 0, 0, no));
            refused(SOME, "reach, least " + no, ARGUMENT, x -> x.reach(1, 0, no, 9));
            refused(SOME, "reach, greatest " + no, ARGUMENT, x -> x.reach(1, 0, 9, no));
            refused(SOME, "curve, value " + no, ARGUMENT, x -> x.curve(1, 0, no));
            refused(SOME, "taken, value " + no, ARGUMENT, x -> x.taken(1, 0, no));
        }
        refused(SOME, "reach, crossed", ARGUMENT, x -> x.reach(1, 0, 9, 8));
    }

    private static void heldProfiles() {
        for (int held = 2; held <= 3; held++) {
            int profile = held;
            refused(SOME, "bend, held", STATE, x -> x.bend(profile, 0, 0, 9));
            refused(SOME, "reach, held", STATE, x -> x.reach(profile, 0, 9, 9));
            refused(SOME, "way, held", STATE, x -> x.way(profile, GamutChain.SQUEEZE));
        }
    }

    private static void chains() {
        for (int no : OUT_OF_INT) {
            refused(SOME, "add, chain " + no, INDEX, x -> x.add(no, 0));
            refused(SOME, "add, profile " + no, INDEX, x -> x.add(4, no == 256 ? 7 : no));
            refused(SOME, "drop, chain " + no, INDEX, x -> x.drop(no));
            refused(SOME, "through, chain " + no, INDEX, x -> x.through(no, 0, 9));
            refused(SOME, "through, band " + no, INDEX, x -> x.through(0, no, 9));
            refused(SOME, "through, value " + no, ARGUMENT, x -> x.through(0, 0, no == 8 ? 257 : no));
            refused(SOME, "gap, chain " + no, INDEX, x -> x.gap(no));
            refused(SOME, "greyGap, chain " + no, INDEX, x -> x.greyGap(no));
            refused(SOME, "sign, chain " + no, INDEX, x -> x.sign(no) ? 1 : 0);
        }
        refused(SOME, "drop of an empty chain", STATE, x -> x.drop(4));
        refused(SOME, "add to a full chain", STATE, x -> x.add(0, 6));
    }

    private static void heldChains() {
        for (int signed = 2; signed <= 3; signed++) {
            int chain = signed;
            refused(SOME, "add, held", STATE, x -> x.add(chain, 0));
            refused(SOME, "drop, held", STATE, x -> x.drop(chain));
        }
    }

    private static void joining() {
        for (int no : OUT_OF_INT) {
            refused(SOME, "join, chain " + no, INDEX, x -> x.join(no, 255));
            refused(SOME, "join, most " + no, ARGUMENT, x -> x.join(1, no == 8 ? 257 : no));
            refused(SOME, "joined, chain " + no, INDEX, x -> x.joined(no, 0, 9));
            refused(SOME, "joined, band " + no, INDEX, x -> x.joined(1, no, 9));
            refused(SOME, "joined, value " + no, ARGUMENT, x -> x.joined(1, 0, no == 8 ? 257 : no));
        }
        refused(SOME, "join, gap above most, not joined before", STATE, x -> x.join(0, 0));
        refused(SOME, "join, gap above most, joined before", STATE, x -> x.join(1, 0));
        refused(SOME, "joined, not joined", STATE, x -> x.joined(0, 0, 9));
    }

    private static void picture() {
        for (int no : OUT_OF_INT) {
            int value = no == 8 ? 257 : no;
            refused(SOME, "paint, pixel " + no, INDEX, x -> x.paint(no, 0, 9));
            refused(SOME, "paint, band " + no, INDEX, x -> x.paint(0, no, 9));
            refused(SOME, "paint, value " + value, ARGUMENT, x -> x.paint(0, 0, value));
            refused(SOME, "spot, pixel " + no, INDEX, x -> x.spot(no, 0, 9));
            refused(SOME, "spot, ink " + no, INDEX, x -> x.spot(0, no, 9));
            refused(SOME, "spot, amount " + value, ARGUMENT, x -> x.spot(0, 0, value));
            refused(SOME, "mix, ink " + no, INDEX, x -> x.mix(no, 0, 9));
            refused(SOME, "mix, band " + no, INDEX, x -> x.mix(0, no, 9));
            refused(SOME, "mix, value " + value, ARGUMENT, x -> x.mix(0, 0, value));
            refused(SOME, "shown, chain " + no, INDEX, x -> x.shown(no, 0, 0, 0));
            refused(SOME, "shown, pixel " + no, INDEX, x -> x.shown(0, no, 0, 0));
            refused(SOME, "shown, band " + no, INDEX, x -> x.shown(0, 0, no, 0));
            refused(SOME, "shown, inks " + no, ARGUMENT, x -> x.shown(0, 0, 0, no));
        }
    }

    private static void asked() {
        asking("curve", x -> x.curve(2, 1, 100));
        asking("taken", x -> x.taken(2, 1, 100));
        asking("through", x -> x.through(0, 1, 100));
        asking("gap", x -> x.gap(1));
        asking("greyGap", x -> x.greyGap(1));
        asking("joined", x -> x.joined(1, 1, 100));
        asking("stale", GamutChain::stale);
        asking("held", GamutChain::held);
        asking("shown", x -> x.shown(0, 1, 1, 2));
    }

    private static void asking(String what, Use use) {
        GamutChain asked = SOME.made();
        long first = use.of(asked);
        Checks.due(what + " once more", first, use.of(asked));
        same(what, SOME.made(), asked);
    }
}
