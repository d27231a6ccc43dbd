/** Promises 1 to 7: a new object, profiles, their curves, reach and ways. */
public final class ProfilesTest {
    private static final int MIN = Integer.MIN_VALUE, MAX = Integer.MAX_VALUE;

    public static void main(String[] args) {
        newObject();
        numbers();
        freshProfile();
        bendSetsOnePlace();
        curveRisesAndFalls();
        lastPiece();
        reachCounts();
        cut();
        squeeze();
        fold();
        waysOfAllBands();
        wrongProfiles();
        bendThrows();
        reachThrows();
        wayThrows();
        readsThrow();
        Checks.end();
    }

    private static void newObject() {
        GamutChain x = new GamutChain();
        Checks.due("stale of a new object", 0, x.stale());
        Checks.due("held of a new object", 0, x.held());
        Checks.thrown("no profile yet", Checks.INDEX, () -> x.curve(0, 0, 0));
        Checks.thrown("no chain yet", Checks.INDEX, () -> x.through(0, 0, 0));
        x.chain();
        for (int pixel = 0; pixel < 6; pixel++) {
            for (int band = 0; band < 3; band++) {
                Checks.due("a new pixel is black", 0, x.shown(0, pixel, band, 0));
                Checks.due("paint's value before", 0, x.paint(pixel, band, 0));
                Checks.due("spot's amount before", 0, x.spot(pixel, band, 0));
                if (pixel < 3) {
                    Checks.due("mix's value before", 0, x.mix(pixel, band, 0));
                }
            }
        }
    }

    private static void numbers() {
        GamutChain x = new GamutChain();
        for (int k = 0; k < 8; k++) {
            int next = k;
            Checks.thrown("not there yet", Checks.INDEX, () -> x.taken(next, 0, 0));
            Checks.due("profile", k, x.profile());
        }
        Checks.thrown("a ninth profile", Checks.STATE, x::profile);
        Checks.thrown("a ninth profile again", Checks.STATE, x::profile);
        Checks.due("the eighth stands", 255, x.curve(7, 2, 255));
        Checks.thrown("profile 8", Checks.INDEX, () -> x.curve(8, 0, 0));
        Checks.due("other objects have none of them", 0, new GamutChain().profile());
    }

    private static void freshProfile() {
        GamutChain x = new GamutChain();
        x.profile();
        for (int value = 0; value < 256; value += 5) {
            Checks.due("curve at first", value, x.curve(0, value % 3, value));
            Checks.due("taken at first", value, x.taken(0, value % 3, value));
        }
        Checks.due("the way at first is CUT", GamutChain.CUT, x.way(0, GamutChain.FOLD));
    }

    private static void bendSetsOnePlace() {
        GamutChain x = new GamutChain();
        x.profile();
        x.profile();
        int[] first = {0, 64, 128, 192, 255};
        for (int place = 0; place < 5; place++) {
            Checks.due("bend", first[place], x.bend(1, 1, place, 10 + place));
            Checks.due("bend again", 10 + place, x.bend(1, 1, place, 20 + place));
            Checks.due("curve at a place", 20 + place, x.curve(1, 1, first[place]));
            Checks.due("another band stays", first[place], x.curve(1, 0, first[place]));
            Checks.due("another band stays", first[place], x.curve(1, 2, first[place]));
            Checks.due("another profile stays", first[place], x.curve(0, 1, first[place]));
        }
        Checks.due("bend to 0", 20, x.bend(1, 1, 0, 0));
        Checks.due("bend to 255", 0, x.bend(1, 1, 0, 255));
        Checks.due("curve at 0", 255, x.curve(1, 1, 0));
    }

    private static void curveRisesAndFalls() {
        GamutChain x = new GamutChain();
        x.profile();
        x.bend(0, 0, 0, 3);
        x.bend(0, 0, 1, 4);
        x.bend(0, 0, 2, 3);
        Checks.due("rising by one, just below", 3, x.curve(0, 0, 63));
        Checks.due("rising by one, there", 4, x.curve(0, 0, 64));
        Checks.due("falling by one goes down at once", 3, x.curve(0, 0, 65));
        Checks.due("falling by one, there", 3, x.curve(0, 0, 128));
        x.bend(0, 0, 0, 0);
        x.bend(0, 0, 1, 255);
        x.bend(0, 0, 2, 0);
        Checks.due("255 / 64", 3, x.curve(0, 0, 1));
        Checks.due("255 * 63 / 64", 251, x.curve(0, 0, 63));
        Checks.due("255 - 255 / 64", 251, x.curve(0, 0, 65));
        Checks.due("255 - 255 * 63 / 64", 3, x.curve(0, 0, 127));
        Checks.due("255 - 127.5", 127, x.curve(0, 0, 96));
    }

    private static void lastPiece() {
        GamutChain x = new GamutChain();
        x.profile();
        x.bend(0, 2, 3, 0);
        x.bend(0, 2, 4, 63);
        Checks.due("the last piece has 63 steps", 1, x.curve(0, 2, 193));
        Checks.due("the last piece has 63 steps", 62, x.curve(0, 2, 254));
        Checks.due("the last place", 63, x.curve(0, 2, 255));
        x.bend(0, 2, 3, 255);
        x.bend(0, 2, 4, 0);
        Checks.due("falling at the end", 250, x.curve(0, 2, 193));
        Checks.due("falling at the end", 4, x.curve(0, 2, 254));
        Checks.due("falling to the last place", 0, x.curve(0, 2, 255));
    }

    private static void reachCounts() {
        GamutChain x = new GamutChain();
        x.profile();
        x.profile();
        Checks.due("all in reach at first", 256, x.reach(0, 0, 10, 20));
        Checks.due("11 in reach", 11, x.reach(0, 0, 7, 7));
        Checks.due("one in reach", 1, x.reach(0, 0, 0, 0));
        Checks.due("one in reach", 1, x.reach(0, 0, 255, 255));
        Checks.due("one in reach", 1, x.reach(0, 0, 0, 255));
        Checks.due("all again", 256, x.reach(0, 0, 0, 255));
        Checks.due("another band", 256, x.reach(0, 1, 1, 255));
        Checks.due("another profile", 256, x.reach(1, 1, 0, 254));
    }

    private static void cut() {
        GamutChain x = profileOfReach(GamutChain.CUT, 100, 150);
        takes(x, new int[] {0, 99, 100, 101, 149, 150, 151, 255}, new int[] {100, 100, 100, 101, 149, 150, 150, 150});
        Checks.due("another band is in reach", 99, x.taken(0, 0, 99));
        Checks.due("the curve is ahead of the way", 99, x.curve(0, 1, 99));
        x.bend(0, 1, 1, 200);
        Checks.due("taken by the curve first", 150, x.taken(0, 1, 64));
    }

    private static void squeeze() {
        GamutChain x = profileOfReach(GamutChain.SQUEEZE, 100, 150);
        takes(x, new int[] {0, 5, 6, 127, 128, 254, 255}, new int[] {100, 100, 101, 124, 125, 149, 150});
        x.bend(0, 1, 0, 255);
        Checks.due("squeezed behind the curve", 150, x.taken(0, 1, 0));
        x.reach(0, 1, 77, 77);
        Checks.due("one in reach", 77, x.taken(0, 1, 255));
        x.reach(0, 1, 0, 255);
        Checks.due("all in reach", 254, x.taken(0, 1, 254));
    }

    private static void fold() {
        GamutChain x = profileOfReach(GamutChain.FOLD, 100, 150);
        takes(x, new int[] {99, 100, 150, 151, 199, 200, 201, 255}, new int[] {101, 100, 150, 149, 101, 100, 100, 100});
        takes(x, new int[] {51, 50, 49, 0}, new int[] {149, 150, 150, 150});
        Checks.due("the curve is ahead of the way", 255, x.curve(0, 1, 255));
        x.reach(0, 1, 200, 201);
        Checks.due("far below", 201, x.taken(0, 1, 0));
        Checks.due("above by one", 200, x.taken(0, 1, 202));
        x.reach(0, 1, 0, 0);
        Checks.due("below nothing", 0, x.taken(0, 1, 255));
        x.reach(0, 1, 255, 255);
        Checks.due("above nothing", 255, x.taken(0, 1, 0));
    }

    private static GamutChain profileOfReach(int way, int least, int greatest) {
        GamutChain x = new GamutChain();
        x.profile();
        x.reach(0, 1, least, greatest);
        x.way(0, way);
        return x;
    }

    private static void takes(GamutChain x, int[] values, int[] wanted) {
        for (int k = 0; k < values.length; k++) {
            Checks.due("taken(0, 1, " + values[k] + ")", wanted[k], x.taken(0, 1, values[k]));
        }
    }

    private static void waysOfAllBands() {
        GamutChain x = new GamutChain();
        x.profile();
        x.profile();
        for (int band = 0; band < 3; band++) {
            x.reach(0, band, 0, 200);
            x.reach(1, band, 0, 200);
        }
        Checks.due("way", GamutChain.CUT, x.way(0, GamutChain.SQUEEZE));
        Checks.due("way", GamutChain.SQUEEZE, x.way(0, GamutChain.FOLD));
        for (int band = 0; band < 3; band++) {
            Checks.due("folded in each band", 145, x.taken(0, band, 255));
            Checks.due("another profile is cut", 200, x.taken(1, band, 255));
        }
        Checks.due("way", GamutChain.FOLD, x.way(0, GamutChain.CUT));
        Checks.due("way", GamutChain.CUT, x.way(0, GamutChain.CUT));
    }

    private static void wrongProfiles() {
        GamutChain x = new GamutChain();
        x.profile();
        for (int no : new int[] {-1, 1, 8, MIN, MAX}) {
            Checks.thrown("bend", Checks.INDEX, () -> x.bend(no, 0, 0, 0));
            Checks.thrown("bend, value too", Checks.INDEX, () -> x.bend(no, 0, 0, 256));
            Checks.thrown("reach", Checks.INDEX, () -> x.reach(no, 0, 0, 255));
            Checks.thrown("reach, least too", Checks.INDEX, () -> x.reach(no, 0, -1, 255));
            Checks.thrown("way", Checks.INDEX, () -> x.way(no, 0));
            Checks.thrown("way, way too", Checks.INDEX, () -> x.way(no, 3));
            Checks.thrown("curve", Checks.INDEX, () -> x.curve(no, 0, 0));
            Checks.thrown("curve, value too", Checks.INDEX, () -> x.curve(no, 0, -1));
            Checks.thrown("taken", Checks.INDEX, () -> x.taken(no, 0, 0));
            Checks.thrown("taken, value too", Checks.INDEX, () -> x.taken(no, 0, 256));
        }
    }

    private static GamutChain heldProfile() {
        GamutChain x = new GamutChain();
        x.profile();
        x.chain();
        x.add(0, 0);
        x.sign(0);
        return x;
    }

    private static void bendThrows() {
        GamutChain x = heldProfile();
        for (int no : new int[] {-1, 3, MIN, MAX}) {
            Checks.thrown("bend, band", Checks.INDEX, () -> x.bend(0, no, 0, -1));
        }
        for (int no : new int[] {-1, 5, MIN, MAX}) {
            Checks.thrown("bend, place", Checks.INDEX, () -> x.bend(0, 0, no, 256));
        }
        for (int no : new int[] {-1, 256, MIN, MAX}) {
            Checks.thrown("bend, value", Checks.ARGUMENT, () -> x.bend(0, 0, 0, no));
        }
        Checks.thrown("bend, held", Checks.STATE, () -> x.bend(0, 0, 0, 1));
        Checks.thrown("bend, held, the same value", Checks.STATE, () -> x.bend(0, 2, 4, 255));
        Checks.due("nothing is bent", 0, x.curve(0, 0, 0));
        x.sign(0);
        Checks.due("released", 0, x.bend(0, 0, 0, 1));
    }

    private static void reachThrows() {
        GamutChain x = heldProfile();
        for (int no : new int[] {-1, 3, MIN, MAX}) {
            Checks.thrown("reach, band", Checks.INDEX, () -> x.reach(0, no, -1, 256));
        }
        for (int no : new int[] {-1, 256, MIN, MAX}) {
            Checks.thrown("reach, least", Checks.ARGUMENT, () -> x.reach(0, 0, no, 255));
            Checks.thrown("reach, greatest", Checks.ARGUMENT, () -> x.reach(0, 0, 0, no));
            Checks.thrown("reach, both", Checks.ARGUMENT, () -> x.reach(0, 0, no, no));
        }
        Checks.thrown("reach, greatest below least", Checks.ARGUMENT, () -> x.reach(0, 0, 9, 8));
        Checks.thrown("reach, held", Checks.STATE, () -> x.reach(0, 0, 9, 9));
        Checks.due("all in reach still", 255, x.taken(0, 0, 255));
        x.sign(0);
        Checks.due("released", 256, x.reach(0, 0, 9, 9));
    }

    private static void wayThrows() {
        GamutChain x = heldProfile();
        for (int no : new int[] {-1, 3, MIN, MAX}) {
            Checks.thrown("way", Checks.ARGUMENT, () -> x.way(0, no));
        }
        Checks.thrown("way, held", Checks.STATE, () -> x.way(0, GamutChain.FOLD));
        Checks.thrown("way, held, the same way", Checks.STATE, () -> x.way(0, GamutChain.CUT));
        x.sign(0);
        Checks.due("released, and CUT still", GamutChain.CUT, x.way(0, GamutChain.FOLD));
    }

    private static void readsThrow() {
        GamutChain x = heldProfile();
        for (int no : new int[] {-1, 3, MIN, MAX}) {
            Checks.thrown("curve, band", Checks.INDEX, () -> x.curve(0, no, -1));
            Checks.thrown("taken, band", Checks.INDEX, () -> x.taken(0, no, 256));
        }
        for (int no : new int[] {-1, 256, MIN, MAX}) {
            Checks.thrown("curve, value", Checks.ARGUMENT, () -> x.curve(0, 0, no));
            Checks.thrown("taken, value", Checks.ARGUMENT, () -> x.taken(0, 0, no));
        }
        Checks.due("curve of what is held", 9, x.curve(0, 0, 9));
        Checks.due("taken by what is held", 9, x.taken(0, 0, 9));
    }
}
