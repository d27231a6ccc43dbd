/** Promises 19 to 22: the picture, its spot inks and how a pixel is shown. */
public final class PictureTest {
    private static final int MIN = Integer.MIN_VALUE, MAX = Integer.MAX_VALUE;

    public static void main(String[] args) {
        paint();
        spot();
        mix();
        shownBySets();
        shownRounds();
        shownAtMost();
        shownByChain();
        wrongPixels();
        wrongBandsAndInks();
        wrongValues();
        Checks.end();
    }

    private static GamutChain withChain() {
        GamutChain x = new GamutChain();
        x.chain();
        return x;
    }

    private static void paint() {
        GamutChain x = withChain();
        for (int k = 0; k < 18; k++) {
            Checks.due("paint", 0, x.paint(k / 3, k % 3, k + 1));
        }
        for (int k = 0; k < 18; k++) {
            Checks.due("painted", k + 1, x.shown(0, k / 3, k % 3, 0));
            Checks.due("paint again", k + 1, x.paint(k / 3, k % 3, 255));
            Checks.due("and again", 255, x.paint(k / 3, k % 3, 0));
        }
    }

    private static void spot() {
        GamutChain x = withChain();
        for (int k = 0; k < 18; k++) {
            Checks.due("spot", 0, x.spot(k / 3, k % 3, k + 1));
        }
        for (int k = 0; k < 18; k++) {
            Checks.due("spot again", k + 1, x.spot(k / 3, k % 3, 255));
            Checks.due("and again", 255, x.spot(k / 3, k % 3, 0));
        }
    }

    private static void mix() {
        GamutChain x = withChain();
        for (int k = 0; k < 9; k++) {
            Checks.due("mix", 0, x.mix(k / 3, k % 3, k + 1));
        }
        for (int k = 0; k < 9; k++) {
            Checks.due("mix again", k + 1, x.mix(k / 3, k % 3, 255));
            Checks.due("and again", 255, x.mix(k / 3, k % 3, 0));
        }
    }

    private static void shownBySets() {
        GamutChain x = withChain();
        x.paint(5, 2, 100);
        for (int ink = 0; ink < 3; ink++) {
            x.spot(5, ink, 255);
            x.mix(ink, 2, 1 << ink);
        }
        for (int inks = 0; inks < 8; inks++) {
            Checks.due("shown with the inks " + inks, 107 - inks, x.shown(0, 5, 2, inks));
            Checks.due("another band", 0, x.shown(0, 5, 1, inks));
            Checks.due("another pixel", 0, x.shown(0, 4, 2, inks));
        }
        Checks.due("the colour stays", 100, x.paint(5, 2, 100));
        Checks.due("the amount stays", 255, x.spot(5, 1, 255));
    }

    private static void shownRounds() {
        GamutChain x = withChain();
        for (int ink = 0; ink < 3; ink++) {
            x.spot(0, ink, 127);
            x.mix(ink, 0, 1);
        }
        Checks.due("each rounded down by itself", 0, x.shown(0, 0, 0, 0));
        x.mix(0, 0, 3);
        Checks.due("381 / 255", 1, x.shown(0, 0, 0, 0));
        x.spot(0, 0, 254);
        x.mix(0, 0, 255);
        Checks.due("254", 254, x.shown(0, 0, 0, 6));
    }

    private static void shownAtMost() {
        GamutChain x = withChain();
        x.paint(0, 1, 200);
        x.spot(0, 0, 255);
        x.mix(0, 1, 55);
        Checks.due("255 is left", 255, x.shown(0, 0, 1, 0));
        x.mix(0, 1, 56);
        Checks.due("at most 255", 255, x.shown(0, 0, 1, 0));
        x.spot(0, 1, 255);
        x.mix(1, 1, 255);
        x.spot(0, 2, 255);
        x.mix(2, 1, 255);
        Checks.due("at most 255 by all of them", 255, x.shown(0, 0, 1, 0));
        Checks.due("kept by the device", 200, x.shown(0, 0, 1, 7));
    }

    private static void shownByChain() {
        GamutChain x = withChain();
        x.profile();
        x.chain();
        x.add(1, 0);
        x.way(0, GamutChain.FOLD);
        x.reach(0, 0, 0, 199);
        x.paint(0, 0, 250);
        x.spot(0, 0, 255);
        x.mix(0, 0, 10);
        Checks.due("the inks first, then the chain: 255 folded", 143, x.shown(1, 0, 0, 0));
        Checks.due("the chain alone: 250 folded", 148, x.shown(1, 0, 0, 1));
        Checks.due("another chain", 255, x.shown(0, 0, 0, 0));
        x.sign(1);
        x.join(1, 255);
        Checks.due("profile by profile, joined or not", 148, x.shown(1, 0, 0, 7));
        Checks.due("paint is free of what is held", 250, x.paint(0, 0, 0));
        Checks.due("black", 0, x.shown(1, 0, 0, 7));
    }

    private static void wrongPixels() {
        GamutChain x = withChain();
        for (int no : new int[] {-1, 6, MIN, MAX}) {
            Checks.thrown("paint", Checks.INDEX, () -> x.paint(no, 0, 0));
            Checks.thrown("paint, value too", Checks.INDEX, () -> x.paint(no, 0, 256));
            Checks.thrown("spot", Checks.INDEX, () -> x.spot(no, 0, 0));
            Checks.thrown("spot, amount too", Checks.INDEX, () -> x.spot(no, 0, -1));
            Checks.thrown("shown", Checks.INDEX, () -> x.shown(0, no, 0, 0));
            Checks.thrown("shown, inks too", Checks.INDEX, () -> x.shown(0, no, 0, 8));
        }
        for (int no : new int[] {-1, 1, 6, MIN, MAX}) {
            Checks.thrown("shown, chain", Checks.INDEX, () -> x.shown(no, 0, 0, 0));
            Checks.thrown("shown, chain, inks too", Checks.INDEX, () -> x.shown(no, 0, 0, -1));
        }
    }

    private static void wrongBandsAndInks() {
        GamutChain x = withChain();
        for (int no : new int[] {-1, 3, MIN, MAX}) {
            Checks.thrown("paint, band", Checks.INDEX, () -> x.paint(0, no, 0));
            Checks.thrown("paint, band, value too", Checks.INDEX, () -> x.paint(0, no, -1));
            Checks.thrown("spot, ink", Checks.INDEX, () -> x.spot(0, no, 0));
            Checks.thrown("spot, ink, amount too", Checks.INDEX, () -> x.spot(0, no, 256));
            Checks.thrown("mix, ink", Checks.INDEX, () -> x.mix(no, 0, 0));
            Checks.thrown("mix, ink, value too", Checks.INDEX, () -> x.mix(no, 0, 256));
            Checks.thrown("mix, band", Checks.INDEX, () -> x.mix(0, no, 0));
            Checks.thrown("mix, band, value too", Checks.INDEX, () -> x.mix(0, no, -1));
            Checks.thrown("shown, band", Checks.INDEX, () -> x.shown(0, 0, no, 0));
            Checks.thrown("shown, band, inks too", Checks.INDEX, () -> x.shown(0, 0, no, 8));
        }
    }

    private static void wrongValues() {
        GamutChain x = withChain();
        for (int no : new int[] {-1, 256, MIN, MAX}) {
            Checks.thrown("paint, value", Checks.ARGUMENT, () -> x.paint(0, 0, no));
            Checks.thrown("spot, amount", Checks.ARGUMENT, () -> x.spot(0, 0, no));
            Checks.thrown("mix, value", Checks.ARGUMENT, () -> x.mix(0, 0, no));
        }
        for (int no : new int[] {-1, 8, 256, MIN, MAX}) {
            Checks.thrown("shown, inks", Checks.ARGUMENT, () -> x.shown(0, 0, 0, no));
        }
        Checks.due("nothing is painted", 0, x.paint(0, 0, 0));
        Checks.due("nothing is spotted", 0, x.spot(0, 0, 0));
        Checks.due("nothing is mixed", 0, x.mix(0, 0, 0));
    }
}
