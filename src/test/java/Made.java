/** Objects to begin a test with. */
final class Made {
    static final int MIN = Integer.MIN_VALUE, MAX = Integer.MAX_VALUE;
    static final int[] PLACES = {0, 64, 128, 192, 255};

    interface Maker {
        GamutChain made();
    }

    private Made() {
    }

    static GamutChain with(int profiles, int chains) {
        GamutChain x = new GamutChain();
        for (int k = 0; k < profiles; k++) {
            x.profile();
        }
        for (int k = 0; k < chains; k++) {
            x.chain();
        }
        return x;
    }

    /** Profile 0 alone in chain 0, which is signed. */
    static GamutChain held() {
        GamutChain x = with(1, 1);
        x.add(0, 0);
        x.sign(0);
        return x;
    }

    /** Profile 0 is cut at 100 in the band 0, and makes a gap of 16 in chain 0. */
    static GamutChain gapOfSixteen() {
        GamutChain x = with(1, 1);
        x.add(0, 0);
        x.reach(0, 0, 0, 100);
        return x;
    }

    /**
     * Something of everything, and none of it as at first. Chain 0 is full, chain 1 is joined and stale, chain 2 is
     * signed, chain 3 is signed and joined, chain 4 is as new; profiles 2 and 3 are held.
     */
    static GamutChain busy(int profiles, int chains) {
        GamutChain x = with(profiles, chains);
        for (int k = 0; k < 12; k++) {
            x.bend(k % 4, k % 3, k % 5, 30 + 11 * k);
            x.reach(k % 4, k % 3, 3 * k, 240 - 5 * k);
        }
        x.way(1, GamutChain.SQUEEZE);
        x.way(2, GamutChain.FOLD);
        for (int k = 0; k < 6; k++) {
            x.add(0, k % 2);
        }
        x.join(1, 0);
        x.add(1, 1);
        x.add(2, 2);
        x.add(2, 3);
        x.add(3, 3);
        x.join(3, 255);
        x.sign(2);
        x.sign(3);
        for (int k = 0; k < 18; k++) {
            x.paint(k / 3, k % 3, 10 * k + 1);
            x.spot(k / 3, k % 3, 250 - 10 * k);
        }
        for (int k = 0; k < 9; k++) {
            x.mix(k / 3, k % 3, 20 * k + 5);
        }
        return x;
    }
}
