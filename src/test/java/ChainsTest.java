/** Promises 8 to 18: chains, their gaps, joining, what is stale, signing and what is held. */
public final class ChainsTest {
    private static final int MIN = Integer.MIN_VALUE, MAX = Integer.MAX_VALUE;

    public static void main(String[] args) {
        numbers();
        addAndDrop();
        addAndDropThrow();
        through();
        gap();
        gapOfEachBand();
        greyGap();
        betweenThePlaces();
        join();
        joinThrows();
        joinedKeeps();
        joinedKeepsEachPlace();
        stale();
        staleOfEachPlace();
        sign();
        held();
        heldAndJoined();
        heldAndJoinedAnew();
        joinedWhateverTheChainHas();
        wrongChains();
        Checks.end();
    }

    private static GamutChain with(int profiles, int chains) {
        GamutChain x = new GamutChain();
        for (int k = 0; k < profiles; k++) {
            x.profile();
        }
        for (int k = 0; k < chains; k++) {
            x.chain();
        }
        return x;
    }

    private static void numbers() {
        GamutChain x = new GamutChain();
        for (int k = 0; k < 6; k++) {
            int next = k;
            Checks.thrown("not there yet", Checks.INDEX, () -> x.through(next, 0, 0));
            Checks.due("chain", k, x.chain());
            Checks.thrown("it has no profiles", Checks.STATE, () -> x.drop(next));
        }
        Checks.thrown("a seventh chain", Checks.STATE, x::chain);
        Checks.thrown("a seventh chain again", Checks.STATE, x::chain);
        Checks.due("the sixth stands", 200, x.through(5, 2, 200));
        Checks.thrown("chain 6", Checks.INDEX, () -> x.through(6, 0, 0));
    }

    private static void addAndDrop() {
        GamutChain x = with(8, 6);
        int[] row = {7, 0, 3, 3, 5, 7};
        for (int k = 0; k < 6; k++) {
            Checks.due("add", k + 1, x.add(5, row[k]));
        }
        Checks.due("add to another chain", 1, x.add(4, 2));
        Checks.thrown("a seventh", Checks.STATE, () -> x.add(5, 1));
        for (int k = 5; k >= 0; k--) {
            Checks.due("drop", row[k], x.drop(5));
        }
        Checks.thrown("drop of nothing", Checks.STATE, () -> x.drop(5));
        Checks.due("another chain stays", 2, x.drop(4));
        Checks.due("add again", 1, x.add(5, 6));
        Checks.due("drop again", 6, x.drop(5));
    }

    private static void addAndDropThrow() {
        GamutChain x = with(2, 2);
        for (int no : new int[] {-1, 2, 6, 8, MIN, MAX}) {
            Checks.thrown("add, chain", Checks.INDEX, () -> x.add(no, 0));
            Checks.thrown("add, profile", Checks.INDEX, () -> x.add(0, no));
            Checks.thrown("drop", Checks.INDEX, () -> x.drop(no));
        }
        x.add(0, 1);
        x.sign(0);
        Checks.thrown("add, held and no such profile", Checks.INDEX, () -> x.add(0, 2));
        Checks.thrown("add, held", Checks.STATE, () -> x.add(0, 0));
        Checks.thrown("drop, held", Checks.STATE, () -> x.drop(0));
        Checks.due("a held profile joins another chain", 1, x.add(1, 1));
        Checks.due("and leaves it", 1, x.drop(1));
        x.sign(0);
        Checks.due("released", 2, x.add(0, 0));
        Checks.due("released", 0, x.drop(0));
        x.drop(0);
        x.sign(0);
        Checks.thrown("drop, held and empty", Checks.STATE, () -> x.drop(0));
        Checks.thrown("add, held and empty", Checks.STATE, () -> x.add(0, 0));
    }

    private static void through() {
        GamutChain x = with(2, 2);
        Checks.due("without profiles", 200, x.through(0, 1, 200));
        x.bend(0, 1, 0, 101);
        x.bend(0, 1, 1, 100);
        x.reach(1, 1, 50, 150);
        x.way(1, GamutChain.SQUEEZE);
        x.add(0, 0);
        x.add(0, 1);
        x.add(1, 1);
        x.add(1, 0);
        Checks.due("the first, then the second: 100, 89", 89, x.through(0, 1, 1));
        Checks.due("the second, then the first: 50, 100", 100, x.through(1, 1, 1));
        Checks.due("another band", 1, x.through(0, 0, 1));
        Checks.due("another band", 1, x.through(0, 2, 1));
        x.add(0, 1);
        Checks.due("once more: 50 + 8900 / 255", 84, x.through(0, 1, 1));
        for (int no : new int[] {-1, 3, MIN, MAX}) {
            Checks.thrown("through, band", Checks.INDEX, () -> x.through(0, no, -1));
        }
        for (int no : new int[] {-1, 256, MIN, MAX}) {
            Checks.thrown("through, value", Checks.ARGUMENT, () -> x.through(0, 0, no));
        }
    }

    private static void gap() {
        GamutChain x = with(1, 2);
        Checks.due("without profiles", 0, x.gap(0));
        x.add(0, 0);
        Checks.due("a profile at first", 0, x.gap(0));
        x.reach(0, 0, 0, 100);
        Checks.due("cut at 100 between 64 and 128: 100 - 84", 16, x.gap(0));
        Checks.due("another chain", 0, x.gap(1));
        x.way(0, GamutChain.SQUEEZE);
        Checks.yes("rounding counts", x.gap(0) >= 1);
        Checks.thrown("joining none but exact ones", Checks.STATE, () -> x.join(0, 0));
    }

    private static void gapOfEachBand() {
        for (int band = 0; band < 3; band++) {
            GamutChain x = with(1, 1);
            x.add(0, 0);
            x.reach(0, band, 100, 255);
            Checks.due("cut at 100 below: 100, and 115 of the curve", 15, x.gap(0));
            x.reach(0, band, 0, 255);
            Checks.due("no gap again", 0, x.gap(0));
            // Folded at 200 in the last piece: the curve ends at 145 and starts at 192.
            x.way(0, GamutChain.FOLD);
            x.reach(0, band, 0, 200);
            Checks.due("folded at 200: 200 - 186", 14, x.gap(0));
        }
    }

    private static void greyGap() {
        GamutChain x = with(3, 2);
        Checks.due("without profiles", 0, x.greyGap(0));
        x.add(0, 0);
        Checks.due("a profile at first", 0, x.greyGap(0));
        x.bend(0, 0, 4, 192);
        Checks.due("the first darker, most at 255", 63, x.greyGap(0));
        x.bend(0, 0, 4, 245);
        Checks.due("the first less dark", 10, x.greyGap(0));
        x.bend(0, 2, 4, 205);
        Checks.due("the third and the second", 50, x.greyGap(0));
        x.bend(0, 1, 4, 195);
        Checks.due("the first and the second", 50, x.greyGap(0));
        x.bend(0, 0, 0, 60);
        Checks.due("at the start", 60, x.greyGap(0));
        Checks.due("another chain", 0, x.greyGap(1));
        x.add(1, 1);
        x.reach(1, 2, 96, 255);
        Checks.due("cut at 96 below", 96, x.greyGap(1));
        x.reach(1, 1, 96, 255);
        Checks.due("the first alone is not cut", 96, x.greyGap(1));
        x.reach(1, 0, 96, 255);
        Checks.due("all bands alike", 0, x.greyGap(1));
    }

    /** Chain 0 passes 0, 128, 0, 0 and 0 at the places, and 64 between them alone. */
    private static GamutChain hidden() {
        GamutChain x = with(2, 1);
        x.add(0, 0);
        x.add(0, 1);
        for (int band = 0; band < 3; band++) {
            x.bend(0, band, 1, 128);
            x.bend(0, band, 2, 0);
            x.bend(0, band, 3, 0);
            x.bend(0, band, 4, 0);
        }
        return x;
    }

    private static void betweenThePlaces() {
        GamutChain x = hidden();
        Checks.due("exact", 0, x.join(0, 0));
        x.bend(1, 0, 1, 0);
        Checks.due("the chain is another at 32", 0, x.through(0, 0, 32));
        Checks.due("the curve is as it was", 64, x.joined(0, 0, 32));
        Checks.due("not stale: the places are as they were", 0, x.stale());
        Checks.due("the gap between the places", 64, x.gap(0));
        Checks.due("the grey gap between the places", 64, x.greyGap(0));
        x.bend(1, 0, 2, 127);
        Checks.due("stale: 64 is another", 1, x.stale());
    }

    private static void join() {
        GamutChain x = with(1, 2);
        Checks.due("join without profiles", 0, x.join(0, 0));
        Checks.due("joined without profiles", 200, x.joined(0, 1, 200));
        x.add(0, 0);
        x.reach(0, 0, 0, 100);
        Checks.thrown("gap above most", Checks.STATE, () -> x.join(0, 15));
        Checks.due("the earlier joining stays", 255, x.joined(0, 0, 255));
        Checks.due("gap is most", 16, x.join(0, 16));
        Checks.due("in place of the earlier", 100, x.joined(0, 0, 255));
        Checks.due("joined at 100", 84, x.joined(0, 0, 100));
        Checks.due("through at 100", 100, x.through(0, 0, 100));
        Checks.due("the other bands", 255, x.joined(0, 1, 255));
        Checks.due("the other bands", 100, x.joined(0, 2, 100));
        Checks.due("join with all", 16, x.join(0, 255));
        Checks.thrown("another chain is not joined", Checks.STATE, () -> x.joined(1, 0, 0));
        Checks.due("but can be", 0, x.join(1, 0));
        Checks.due("and has its own", 255, x.joined(1, 0, 255));
    }

    private static void joinThrows() {
        GamutChain x = with(1, 1);
        x.add(0, 0);
        x.reach(0, 0, 0, 100);
        for (int no : new int[] {-1, 256, MIN, MAX}) {
            Checks.thrown("join, most", Checks.ARGUMENT, () -> x.join(0, no));
            Checks.thrown("joined, value, and not joined", Checks.ARGUMENT, () -> x.joined(0, 0, no));
        }
        for (int no : new int[] {-1, 3, MIN, MAX}) {
            Checks.thrown("joined, band, value too", Checks.INDEX, () -> x.joined(0, no, -1));
        }
        Checks.thrown("join, gap", Checks.STATE, () -> x.join(0, 0));
        Checks.thrown("not joined by that", Checks.STATE, () -> x.joined(0, 0, 0));
        x.join(0, 255);
        Checks.thrown("joined, value", Checks.ARGUMENT, () -> x.joined(0, 0, 256));
        Checks.thrown("joined, band", Checks.INDEX, () -> x.joined(0, 3, 0));
    }

    private static void joinedKeeps() {
        GamutChain x = with(1, 1);
        x.add(0, 0);
        x.bend(0, 2, 1, 0);
        x.join(0, 255);
        Checks.due("joined, the third band", 0, x.joined(0, 2, 64));
        Checks.due("joined, falling down by the lesser", 2, x.joined(0, 2, 65));
        x.bend(0, 2, 1, 255);
        Checks.due("stale or not", 0, x.joined(0, 2, 64));
        Checks.due("through is new", 255, x.through(0, 2, 64));
        Checks.due("gap asks for the curve of now", 0, x.gap(0));
        Checks.due("which leaves what is kept", 0, x.joined(0, 2, 64));
        x.drop(0);
        Checks.due("without profiles", 0, x.joined(0, 2, 64));
        Checks.due("joined anew", 0, x.join(0, 0));
        Checks.due("joined anew", 64, x.joined(0, 2, 64));
    }

    private static void joinedKeepsEachPlace() {
        int[] places = {0, 64, 128, 192, 255};
        GamutChain x = with(1, 6);
        x.add(5, 0);
        for (int k = 0; k < 15; k++) {
            x.bend(0, k / 5, k % 5, 100 + k);
        }
        x.join(5, 255);
        x.reach(0, 0, 0, 0);
        for (int k = 0; k < 15; k++) {
            Checks.due("kept at a place", 100 + k, x.joined(5, k / 5, places[k % 5]));
        }
    }

    private static void stale() {
        GamutChain x = with(2, 6);
        x.add(1, 0);
        x.add(3, 1);
        x.add(4, 0);
        x.join(1, 0);
        x.join(3, 0);
        x.join(5, 0);
        Checks.due("none", 0, x.stale());
        x.bend(0, 0, 2, 0);
        Checks.due("chain 1, chain 4 is not joined", 2, x.stale());
        x.bend(1, 2, 4, 0);
        Checks.due("chains 1 and 3", 10, x.stale());
        x.add(5, 0);
        Checks.due("chain 5 by a profile more", 42, x.stale());
        x.bend(0, 0, 2, 128);
        Checks.due("as it was: 3 alone", 8, x.stale());
        x.drop(3);
        Checks.due("as it was, without the profile", 0, x.stale());
        x.add(3, 1);
        Checks.due("stale again", 8, x.stale());
        x.join(3, 255);
        Checks.due("joined again", 0, x.stale());
        x.reach(0, 0, 1, 255);
        Checks.due("by reach", 34, x.stale());
        x.reach(0, 0, 0, 200);
        Checks.due("by reach above", 34, x.stale());
        x.join(1, 255);
        Checks.due("5 is stale still", 32, x.stale());
        x.way(0, GamutChain.FOLD);
        Checks.due("1 by the way", 34, x.stale());
    }

    private static void staleOfEachPlace() {
        GamutChain x = with(1, 1);
        x.add(0, 0);
        x.join(0, 0);
        for (int band = 0; band < 3; band++) {
            for (int place = 0; place < 5; place++) {
                int before = x.bend(0, band, place, 77);
                Checks.due("stale by a place", 1, x.stale());
                x.bend(0, band, place, before);
                Checks.due("and not any more", 0, x.stale());
            }
        }
        x.bend(0, 0, 1, 10);
        x.join(0, 255);
        x.add(0, 0);
        Checks.due("two times is another chain", 1, x.stale());
    }

    private static void sign() {
        GamutChain x = with(1, 2);
        Checks.yes("signed", x.sign(1));
        Checks.yes("released", !x.sign(1));
        Checks.yes("signed again", x.sign(1));
        Checks.yes("another", x.sign(0));
        Checks.yes("released, the other stays", !x.sign(1));
        Checks.thrown("the other stays", Checks.STATE, () -> x.add(0, 0));
        Checks.due("this one is free", 1, x.add(1, 0));
    }

    private static void held() {
        GamutChain x = with(8, 3);
        x.add(0, 0);
        x.add(0, 7);
        x.add(0, 7);
        x.add(1, 7);
        x.add(1, 3);
        Checks.due("none", 0, x.held());
        x.sign(2);
        Checks.due("none in an empty chain", 0, x.held());
        x.sign(0);
        Checks.due("0 and 7", 129, x.held());
        x.sign(1);
        Checks.due("0, 3 and 7", 137, x.held());
        Checks.thrown("3 is held", Checks.STATE, () -> x.way(3, 0));
        Checks.due("4 is not", 0, x.way(4, 0));
        x.sign(0);
        Checks.due("3 and 7", 136, x.held());
        Checks.thrown("7 is held still", Checks.STATE, () -> x.bend(7, 0, 0, 0));
        Checks.due("0 is not", 0, x.bend(0, 0, 0, 0));
        x.sign(1);
        Checks.due("none again", 0, x.held());
        Checks.due("7 is free", 256, x.reach(7, 0, 0, 255));
        x.drop(0);
        x.drop(0);
        x.sign(0);
        Checks.due("what has been dropped is not held", 1, x.held());
    }

    private static void heldAndJoined() {
        GamutChain x = with(1, 1);
        x.add(0, 0);
        x.sign(0);
        Checks.due("a held chain is joined: no exception is listed", 0, x.join(0, 0));
        Checks.due("joined", 9, x.joined(0, 0, 9));
        Checks.due("not stale", 0, x.stale());
        Checks.due("through what is held", 9, x.through(0, 0, 9));
        Checks.due("another profile is added", 1, x.profile());
        Checks.due("another chain is added", 1, x.chain());
    }

    private static void heldAndJoinedAnew() {
        GamutChain x = with(1, 1);
        x.add(0, 0);
        x.join(0, 0);
        x.bend(0, 0, 4, 200);
        x.reach(0, 0, 0, 180);
        x.sign(0);
        Checks.due("a held chain can be stale", 1, x.stale());
        Checks.thrown("its gap is above most", Checks.STATE, () -> x.join(0, x.gap(0) - 1));
        Checks.due("the earlier joining stays", 255, x.joined(0, 0, 255));
        Checks.due("joined anew while it is held", x.gap(0), x.join(0, 255));
        Checks.due("in place of the earlier", 180, x.joined(0, 0, 255));
        Checks.due("not stale any more", 0, x.stale());
        Checks.yes("held still: the call releases it", !x.sign(0));
        Checks.due("joined still", 180, x.joined(0, 0, 255));
    }

    private static void joinedWhateverTheChainHas() {
        GamutChain x = with(1, 1);
        x.bend(0, 1, 0, 40);
        x.join(0, 0);
        for (int length = 1; length <= 6; length++) {
            x.add(0, 0);
            Checks.due("joined still, by the curve of no profile", 7, x.joined(0, 1, 7));
            Checks.due("and stale", 1, x.stale());
        }
        for (int length = 6; length >= 1; length--) {
            Checks.due("stale until the last is gone", 1, x.stale());
            x.drop(0);
            Checks.due("joined still", 7, x.joined(0, 1, 7));
        }
        Checks.due("as it was", 0, x.stale());
    }

    private static void wrongChains() {
        GamutChain x = with(3, 2);
        for (int no : new int[] {-1, 2, 6, MIN, MAX}) {
            Checks.thrown("through", Checks.INDEX, () -> x.through(no, 0, 0));
            Checks.thrown("through, value too", Checks.INDEX, () -> x.through(no, 0, 256));
            Checks.thrown("gap", Checks.INDEX, () -> x.gap(no));
            Checks.thrown("greyGap", Checks.INDEX, () -> x.greyGap(no));
            Checks.thrown("join", Checks.INDEX, () -> x.join(no, 0));
            Checks.thrown("join, most too", Checks.INDEX, () -> x.join(no, 256));
            Checks.thrown("joined", Checks.INDEX, () -> x.joined(no, 0, 0));
            Checks.thrown("joined, value too", Checks.INDEX, () -> x.joined(no, 0, -1));
            Checks.thrown("sign", Checks.INDEX, () -> x.sign(no) ? 1 : 0);
        }
        Checks.due("nothing is signed", 1, x.add(0, 0));
        Checks.due("nothing is held", 0, x.held());
    }
}
