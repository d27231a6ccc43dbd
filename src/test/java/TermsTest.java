/** The sentences of "Terms", each by a test of its own: all values where they are few enough, else the ends. */
public final class TermsTest {
    private static final int[] PLACES = Made.PLACES;

    public static void main(String[] args) {
        curvesAtFirst();
        valuesAtThePlaces();
        everyPiece();
        reachAtFirst();
        everyReach();
        reachOfEachProfileAndBand();
        foldedOnceAlone();
        sixTimesTheSame();
        rowOfEachChain();
        oneBehindTheOther();
        withoutProfiles();
        everyValueJoined();
        curvesOfEachChain();
        theGreatestGap();
        theGreatestGapBelow();
        gapOfExactlyMost();
        gapBesideEachPlace();
        everyBandHasAGap();
        theGreatestGreyGap();
        greyGapAtEachEnd();
        staleAtEachPlace();
        staleAgainAndNot();
        heldAtTheEnds();
        heldByTwo();
        heldIsThatChainAlone();
        blackAtFirst();
        everyMixAndAmount();
        atMost();
        inksOfTheDevice();
        theLastCall();
        twoObjects();
        Checks.end();
    }

    // "at first they are 0, 64, 128, 192 and 255"
    private static void curvesAtFirst() {
        for (int profile = 0; profile < 8; profile++) {
            for (int band = 0; band < 3; band++) {
                GamutChain x = Made.with(8, 0);
                for (int v = 0; v < 256; v++) {
                    Checks.due("curve at first", v, x.curve(profile, band, v));
                }
                for (int place = 0; place < 5; place++) {
                    Checks.due("place at first", PLACES[place], x.bend(profile, band, place, 0));
                }
            }
        }
    }

    // "given by its values at the five places 0, 64, 128, 192 and 255, each 0 to 255"
    private static void valuesAtThePlaces() {
        for (int place = 0; place < 5; place++) {
            for (int value = 0; value < 256; value++) {
                GamutChain x = Made.with(1, 0);
                x.bend(0, 1, place, value);
                Checks.due("the value at a place", value, x.curve(0, 1, PLACES[place]));
                for (int other = 0; other < 5; other++) {
                    int due = other == place ? value : PLACES[other];
                    Checks.due("the values at all places", due, x.curve(0, 1, PLACES[other]));
                }
            }
        }
    }

    // "c and (d - c) * (v - a) / (b - a), rounded down to the lesser number, together"
    private static void everyPiece() {
        for (int piece = 0; piece < 4; piece++) {
            for (int c = 0; c < 256; c++) {
                for (int d = 0; d < 256; d++) {
                    onePiece(piece, c, d);
                }
            }
        }
    }

    private static void onePiece(int piece, int c, int d) {
        GamutChain x = Made.with(1, 0);
        x.bend(0, 2, piece, c);
        x.bend(0, 2, piece + 1, d);
        int a = PLACES[piece];
        int b = PLACES[piece + 1];
        long wrong = 0;
        for (int v = a; v <= b; v++) {
            // A quotient that is whole is exact as a double, and any other stands a 64th or more from a whole one.
            long due = c + (long) Math.floor((double) (d - c) * (v - a) / (b - a));
            wrong += x.curve(0, 2, v) == due ? 0 : 1;
        }
        Checks.due("values of the piece " + a + " to " + b + " from " + c + " to " + d + " that are not due", 0, wrong);
    }

    // "0 and 255 at first, and a way"; "Adds a profile, with the way CUT."
    private static void reachAtFirst() {
        GamutChain x = Made.with(8, 0);
        for (int profile = 0; profile < 8; profile++) {
            Checks.due("way at first", GamutChain.CUT, x.way(profile, GamutChain.CUT));
            for (int band = 0; band < 3; band++) {
                Checks.due("least at first", 0, x.taken(profile, band, 0));
                Checks.due("greatest at first", 255, x.taken(profile, band, 255));
                Checks.due("all in reach at first", 256, x.reach(profile, band, 0, 255));
            }
        }
    }

    // "CUT: ... SQUEEZE: ... FOLD: ...", for each reach and each value
    private static void everyReach() {
        for (int least = 0; least < 256; least++) {
            for (int greatest = least; greatest < 256; greatest++) {
                for (int way = GamutChain.CUT; way <= GamutChain.FOLD; way++) {
                    oneReach(least, greatest, way);
                }
            }
        }
    }

    private static void oneReach(int least, int greatest, int way) {
        GamutChain x = Made.with(1, 0);
        x.way(0, way);
        x.reach(0, 0, least, greatest);
        long wrong = 0;
        for (int v = 0; v < 256; v++) {
            wrong += x.taken(0, 0, v) == dueByWay(way, least, greatest, v) ? 0 : 1;
        }
        Checks.due("values of the reach " + least + " to " + greatest + " by the way " + way + " that are not due", 0, wrong);
    }

    private static long dueByWay(int way, int least, int greatest, int v) {
        if (way == GamutChain.SQUEEZE) {
            return least + (long) Math.floor((double) v * (greatest - least) / 255);
        }
        int found = v;
        if (way == GamutChain.FOLD && v > greatest) {
            found = greatest - (v - greatest);
        } else if (way == GamutChain.FOLD && v < least) {
            found = least + (least - v);
        }
        return found < least ? least : found > greatest ? greatest : found;
    }

    // "A profile has for each band a least and a greatest value that are in reach": each of all its own
    private static void reachOfEachProfileAndBand() {
        GamutChain x = Made.with(8, 0);
        for (int k = 0; k < 24; k++) {
            Checks.due("reach at first", 256, x.reach(k / 3, k % 3, 4 * k + 1, 250 - 5 * k));
        }
        for (int k = 0; k < 24; k++) {
            Checks.due("least", 4 * k + 1, x.taken(k / 3, k % 3, 0));
            Checks.due("greatest", 250 - 5 * k, x.taken(k / 3, k % 3, 255));
            Checks.due("reach", 250 - 9 * k, x.reach(k / 3, k % 3, 0, 0));
        }
    }

    // "if that is out of reach still, it is cut": it is not folded a second time
    private static void foldedOnceAlone() {
        GamutChain x = Made.with(1, 0);
        x.way(0, GamutChain.FOLD);
        x.reach(0, 0, 100, 150);
        int[] from = {255, 201, 200, 199, 151, 150, 100, 99, 51, 50, 49, 0};
        int[] to = {100, 100, 100, 101, 149, 150, 100, 101, 149, 150, 150, 150};
        for (int k = 0; k < from.length; k++) {
            Checks.due("folded " + from[k], to[k], x.taken(0, 0, from[k]));
        }
    }

    // "a chain is a row of at most 6 profiles, some perhaps several times"
    private static void sixTimesTheSame() {
        GamutChain x = Made.with(1, 1);
        x.bend(0, 0, 0, 10);
        x.bend(0, 0, 1, 74);
        for (int n = 1; n <= 6; n++) {
            Checks.due("profiles in the chain", n, x.add(0, 0));
            Checks.due("ten more by each", 10 * n, x.through(0, 0, 0));
        }
        Checks.thrown("a seventh", Checks.STATE, () -> x.add(0, 0));
        for (int n = 6; n >= 1; n--) {
            Checks.due("ten more by each", 10 * n, x.through(0, 0, 0));
            Checks.due("the profile", 0, x.drop(0));
        }
        Checks.due("empty again", 0, x.through(0, 0, 0));
        Checks.thrown("an eighth that is not there", Checks.STATE, () -> x.drop(0));
    }

    // "at most 6; a chain is a row of at most 6 profiles": all six of them full, each with a row of its own
    private static void rowOfEachChain() {
        GamutChain x = Made.with(8, 6);
        for (int k = 0; k < 36; k++) {
            Checks.due("add", k / 6 + 1, x.add(k % 6, (k / 6 + k % 6 * k) % 8));
        }
        for (int k = 35; k >= 0; k--) {
            int chain = k % 6;
            Checks.thrown("no profile 8", Checks.INDEX, () -> x.add(chain, 8));
            Checks.due("drop", (k / 6 + k % 6 * k) % 8, x.drop(chain));
        }
        for (int chain = 0; chain < 6; chain++) {
            int empty = chain;
            Checks.thrown("drop of nothing", Checks.STATE, () -> x.drop(empty));
        }
    }

    // "It takes a value of a band through its profiles, one behind the other"
    private static void oneBehindTheOther() {
        GamutChain x = Made.with(6, 2);
        for (int k = 0; k < 6; k++) {
            x.reach(k, 0, 0, 250 - 20 * k);
            x.way(k, k % 3);
        }
        int due = 255;
        int back = 255;
        for (int k = 0; k < 6; k++) {
            x.add(0, k);
            x.add(1, 5 - k);
            due = x.taken(k, 0, due);
            back = x.taken(5 - k, 0, back);
            Checks.due("forwards", due, x.through(0, 0, 255));
            Checks.due("backwards", back, x.through(1, 0, 255));
        }
        Checks.yes("the order counts", due != back);
    }

    // "without profiles it stays": in each call that takes a value through a chain
    private static void withoutProfiles() {
        GamutChain x = Made.with(1, 1);
        Checks.due("gap", 0, x.gap(0));
        Checks.due("grey gap", 0, x.greyGap(0));
        Checks.due("join", 0, x.join(0, 0));
        Checks.due("stale", 0, x.stale());
        x.sign(0);
        Checks.due("held", 0, x.held());
        for (int v = 0; v < 256; v += 17) {
            for (int band = 0; band < 3; band++) {
                x.paint(3, band, v);
                Checks.due("through", v, x.through(0, band, v));
                Checks.due("joined", v, x.joined(0, band, v));
                Checks.due("shown", v, x.shown(0, 3, band, 0));
            }
        }
    }

    // "a curve is kept for each band, with the values that the chain has at the five places then"
    private static void everyValueJoined() {
        int[] at = {200, 3, 255, 0, 100};
        for (int band = 0; band < 3; band++) {
            GamutChain plain = Made.with(2, 6);
            GamutChain joined = Made.with(2, 6);
            for (int place = 0; place < 5; place++) {
                plain.bend(1, band, place, at[place]);
                joined.bend(1, band, place, at[place]);
            }
            joined.add(5, 1);
            joined.join(5, 255);
            joined.drop(5);
            for (int v = 0; v < 256; v++) {
                Checks.due("joined as the curve was", plain.curve(1, band, v), joined.joined(5, band, v));
            }
        }
    }

    // "a curve is kept for each band", of each chain that is joined
    private static void curvesOfEachChain() {
        GamutChain x = Made.with(1, 6);
        for (int k = 0; k < 90; k++) {
            if (k % 15 == 0) {
                x.add(k / 15, 0);
            }
            x.bend(0, k / 5 % 3, k % 5, k + 100);
            if (k % 15 == 14) {
                x.join(k / 15, 255);
            }
        }
        for (int k = 0; k < 90; k++) {
            Checks.due("kept", k + 100, x.joined(k / 15, k / 5 % 3, PLACES[k % 5]));
        }
        Checks.due("the last is as the profile is", 31, x.stale());
    }

    /** Chain 0 answers low at the five places of the band, and another value between 0 and 64 alone. */
    private static GamutChain peak(int band, int low, int high) {
        GamutChain x = Made.with(2, 1);
        x.add(0, 0);
        x.add(0, 1);
        int[] first = {0, 128, 0, 0, 0};
        for (int place = 0; place < 5; place++) {
            x.bend(0, band, place, first[place]);
            x.bend(1, band, place, place == 1 ? high : low);
        }
        return x;
    }

    // "The gap of a chain is the greatest difference": 255 at most, with the chain above the curve
    private static void theGreatestGap() {
        for (int band = 0; band < 3; band++) {
            GamutChain x = peak(band, 0, 255);
            Checks.due("between the places", 255, x.through(0, band, 32));
            Checks.due("the greatest gap", 255, x.gap(0));
            Checks.thrown("most is 254", Checks.STATE, () -> x.join(0, 254));
            Checks.due("most is 255", 255, x.join(0, 255));
            Checks.due("the curve of it", 0, x.joined(0, band, 32));
        }
    }

    // and below it
    private static void theGreatestGapBelow() {
        for (int band = 0; band < 3; band++) {
            GamutChain x = peak(band, 255, 0);
            Checks.due("the greatest gap", 255, x.gap(0));
            Checks.thrown("most is 254", Checks.STATE, () -> x.join(0, 254));
            Checks.due("most is 255", 255, x.join(0, 255));
            Checks.due("the curve of it", 255, x.joined(0, band, 32));
        }
    }

    // "Throws IllegalStateException if its gap is above most": a gap that is most is not above it
    private static void gapOfExactlyMost() {
        for (int gap = 0; gap < 256; gap++) {
            GamutChain x = peak(gap % 3, 0, gap);
            int most = gap;
            Checks.due("the gap", gap, x.gap(0));
            if (gap > 0) {
                Checks.thrown("most is one less", Checks.STATE, () -> x.join(0, most - 1));
                Checks.thrown("it is not joined", Checks.STATE, () -> x.joined(0, 0, 0));
            }
            Checks.due("most is the gap", gap, x.join(0, gap));
            Checks.due("it is joined", 0, x.joined(0, gap % 3, 32));
        }
    }

    /** One value of the band 0, beside a place, at which alone a chain of profile 0 and three of profile 1 has its gap. */
    private static final int[][] ALONE = {
        // the value, profile 0 at its places, profile 1 at its places, the gap, what the gap is without that value
        {1, 255, 0, 217, 180, 151, 115, 139, 132, 0, 255, 240, 130},
        {63, 0, 255, 251, 165, 181, 109, 136, 126, 22, 255, 205, 150},
        {65, 255, 255, 0, 245, 72, 127, 136, 146, 0, 255, 239, 129},
        {127, 195, 0, 255, 255, 255, 143, 100, 104, 0, 255, 243, 147},
        {129, 255, 255, 255, 0, 114, 151, 139, 145, 8, 255, 245, 126},
        {191, 1, 0, 0, 255, 255, 145, 125, 142, 0, 255, 240, 127},
        {193, 255, 254, 255, 255, 39, 85, 165, 145, 2, 255, 238, 158},
        {254, 197, 0, 0, 57, 255, 109, 135, 136, 0, 255, 241, 135},
    };

    // "over all bands and the values 0 to 255": the first and the last value between each two places
    private static void gapBesideEachPlace() {
        for (int[] alone : ALONE) {
            for (int band = 0; band < 3; band++) {
                GamutChain x = Made.with(2, 1);
                for (int k = 0; k < 10; k++) {
                    x.bend(k / 5, band, k % 5, alone[1 + k]);
                }
                for (int k = 0; k < 4; k++) {
                    x.add(0, k == 0 ? 0 : 1);
                }
                Checks.due("gap at " + alone[0] + " alone", alone[11], x.gap(0));
                Checks.thrown("join below it", Checks.STATE, () -> x.join(0, alone[11] - 1));
                Checks.due("join", alone[11], x.join(0, alone[11]));
                for (int v = alone[0] % 2; v < 256; v += 2) {
                    int apart = Math.abs(x.through(0, band, v) - x.joined(0, band, v));
                    Checks.yes("apart at " + v, v == alone[0] ? apart == alone[11] : apart <= alone[12]);
                }
            }
        }
    }

    private static void everyBandHasAGap() {
        GamutChain x = Made.with(3, 1);
        for (int band = 0; band < 3; band++) {
            x.reach(band, band, 0, 100);
            x.add(0, band);
            Checks.due("the same gap in one band or more", 16, x.gap(0));
        }
        x.reach(1, 1, 0, 96);
        Checks.due("the greatest of the bands", 16, x.gap(0));
        x.drop(0);
        x.drop(0);
        x.drop(0);
        x.add(0, 1);
        Checks.due("cut at 96: 96 and 80", 16, x.gap(0));
    }

    // "the greatest difference of two bands behind the chain": 255 at most, for each two bands
    private static void theGreatestGreyGap() {
        for (int band = 0; band < 3; band++) {
            GamutChain x = Made.with(1, 1);
            x.add(0, 0);
            x.bend(0, band, 0, 255);
            Checks.due("one band is 255, two are 0", 255, x.greyGap(0));
            x.bend(0, (band + 1) % 3, 0, 255);
            Checks.due("two bands are 255, one is 0", 255, x.greyGap(0));
            x.bend(0, (band + 2) % 3, 0, 254);
            Checks.due("one band is less by one", 1, x.greyGap(0));
            x.bend(0, (band + 2) % 3, 0, 255);
            Checks.due("all bands alike", 0, x.greyGap(0));
        }
    }

    // "over all values 0 to 255 that all three bands have ahead of it"
    private static void greyGapAtEachEnd() {
        for (int band = 0; band < 3; band++) {
            for (int place = 0; place < 5; place++) {
                GamutChain x = Made.with(1, 1);
                x.add(0, 0);
                int far = place < 2 ? PLACES[place] + 40 : PLACES[place] - 40;
                x.bend(0, band, place, far);
                Checks.due("grey gap by the place " + PLACES[place], 40, x.greyGap(0));
            }
            GamutChain y = peak(band, 0, 0);
            // The other bands go 0, 128, 128, 192, 255 by the second profile, this one is 0: most at 255.
            Checks.due("grey gap at 255", 255, y.greyGap(0));
        }
        GamutChain z = peak(1, 0, 90);
        z.reach(1, 0, 0, 0);
        z.reach(1, 2, 0, 0);
        Checks.due("grey gap between the places alone", 90, z.greyGap(0));
    }

    // "stale, if the values at the five places are not those that are kept any more"
    private static void staleAtEachPlace() {
        for (int band = 0; band < 3; band++) {
            for (int place = 0; place < 5; place++) {
                GamutChain x = Made.with(1, 6);
                for (int chain = 0; chain < 6; chain++) {
                    x.add(chain, 0);
                    x.join(chain, 0);
                }
                int beside = PLACES[place] == 255 ? 254 : PLACES[place] + 1;
                Checks.due("none is stale", 0, x.stale());
                x.bend(0, band, place, beside);
                Checks.due("all six are stale by one", 63, x.stale());
                x.join(place, 255);
                Checks.due("all but one", 63 - (1 << place), x.stale());
                x.bend(0, band, place, PLACES[place]);
                Checks.due("that one alone", 1 << place, x.stale());
            }
        }
    }

    private static void staleAgainAndNot() {
        GamutChain x = Made.with(2, 1);
        Checks.due("not joined, not stale", 0, x.stale());
        x.join(0, 0);
        x.add(0, 0);
        Checks.due("a profile more that changes nothing", 0, x.stale());
        x.reach(1, 0, 0, 254);
        x.add(0, 1);
        Checks.due("a profile more that changes 255", 1, x.stale());
        x.drop(0);
        Checks.due("without it again", 0, x.stale());
        x.reach(0, 2, 1, 255);
        Checks.due("0 is out of reach", 1, x.stale());
        x.reach(0, 2, 0, 255);
        Checks.due("and in reach", 0, x.stale());
        x.way(0, GamutChain.SQUEEZE);
        Checks.due("squeezed into all is as it was", 0, x.stale());
        x.sign(0);
        Checks.due("signed", 0, x.stale());
    }

    // "held": none and all, the first and the last
    private static void heldAtTheEnds() {
        GamutChain x = Made.with(8, 6);
        Checks.due("no chain is signed", 0, x.held());
        for (int k = 0; k < 8; k++) {
            x.add(k < 4 ? 0 : 5, k);
        }
        Checks.due("no chain is signed", 0, x.held());
        x.sign(5);
        Checks.due("the last four", 240, x.held());
        x.sign(0);
        Checks.due("all", 255, x.held());
        for (int k = 0; k < 8; k++) {
            int profile = k;
            Checks.thrown("bend", Checks.STATE, () -> x.bend(profile, 0, 0, 0));
            Checks.thrown("reach", Checks.STATE, () -> x.reach(profile, 0, 0, 255));
            Checks.thrown("way", Checks.STATE, () -> x.way(profile, 0));
        }
        x.sign(5);
        Checks.due("the first four", 15, x.held());
        x.sign(0);
        Checks.due("none", 0, x.held());
        for (int k = 0; k < 8; k++) {
            Checks.due("bend", 0, x.bend(k, 0, 0, 0));
            Checks.due("reach", 256, x.reach(k, 0, 0, 255));
            Checks.due("way", 0, x.way(k, 0));
        }
    }

    // "none of its profiles can be changed, until it is released": by each of the chains that hold them
    private static void heldByTwo() {
        GamutChain x = Made.with(1, 3);
        for (int chain = 0; chain < 3; chain++) {
            x.add(chain, 0);
            x.add(chain, 0);
            Checks.yes("signed", x.sign(chain));
        }
        for (int chain = 0; chain < 3; chain++) {
            Checks.due("held still", 1, x.held());
            Checks.thrown("bend", Checks.STATE, () -> x.bend(0, 0, 0, 1));
            Checks.yes("released", !x.sign(chain));
        }
        Checks.due("free", 0, x.held());
        Checks.due("bend", 0, x.bend(0, 0, 0, 1));
    }

    // "A chain that is signed is held: it cannot be changed": another with the same profiles can be
    private static void heldIsThatChainAlone() {
        GamutChain x = Made.with(2, 2);
        x.add(0, 0);
        x.add(1, 0);
        x.sign(0);
        Checks.thrown("add", Checks.STATE, () -> x.add(0, 1));
        Checks.thrown("drop", Checks.STATE, () -> x.drop(0));
        Checks.due("add to the other", 2, x.add(1, 1));
        Checks.due("what is added to the other is not held", 1, x.held());
        Checks.due("drop of the other", 1, x.drop(1));
        Checks.due("drop of the other", 0, x.drop(1));
        Checks.due("held still", 1, x.held());
        Checks.due("join of the held one: promise 14 lists no exception for it", 0, x.join(0, 0));
        x.sign(0);
        Checks.due("released: add", 2, x.add(0, 1));
        Checks.due("released: drop", 1, x.drop(0));
    }

    // "all are 0 at first", "a value for each band, 0 at first"; "Nothing but a black picture."
    private static void blackAtFirst() {
        GamutChain x = new GamutChain();
        for (int k = 0; k < 18; k++) {
            Checks.due("paint", 0, x.paint(k / 3, k % 3, 0));
            Checks.due("spot", 0, x.spot(k / 3, k % 3, 0));
            Checks.due("mix", 0, k < 9 ? x.mix(k / 3, k % 3, 0) : 0);
        }
        Checks.due("stale", 0, x.stale());
        Checks.due("held", 0, x.held());
        Checks.thrown("no profile", Checks.INDEX, () -> x.curve(0, 0, 0));
        Checks.thrown("no chain", Checks.INDEX, () -> x.through(0, 0, 0));
        Checks.due("the first profile", 0, x.profile());
        Checks.due("the first chain", 0, x.chain());
    }

    // "each band becomes itself and the mix times the amount, divided by 255, rounded down, together, at most 255"
    private static void everyMixAndAmount() {
        for (int ink = 0; ink < 3; ink++) {
            for (int mix = 0; mix < 256; mix++) {
                oneMix(ink, mix, 0, 127);
                oneMix(ink, mix, 128, 255);
            }
        }
    }

    private static void oneMix(int ink, int mix, int first, int last) {
        GamutChain x = Made.with(0, 1);
        int itself = mix % 7 * 40;
        x.mix(ink, 1, mix);
        x.paint(4, 1, itself);
        long wrong = 0;
        for (int amount = first; amount <= last; amount++) {
            x.spot(4, ink, amount);
            long due = Math.min(255, itself + (long) Math.floor(mix * amount / 255.0));
            wrong += x.shown(0, 4, 1, 7 - (1 << ink)) == due ? 0 : 1;
        }
        Checks.due("values of the mix " + mix + " that are not due", 0, wrong);
    }

    // "at most 255"
    private static void atMost() {
        for (int ink = 0; ink < 3; ink++) {
            GamutChain x = Made.with(0, 1);
            x.paint(0, 0, 1);
            x.spot(0, ink, 255);
            x.mix(ink, 0, 253);
            Checks.due("254", 254, x.shown(0, 0, 0, 0));
            x.mix(ink, 0, 254);
            Checks.due("255", 255, x.shown(0, 0, 0, 0));
            x.mix(ink, 0, 255);
            Checks.due("256 is cut", 255, x.shown(0, 0, 0, 0));
        }
        GamutChain y = Made.with(1, 1);
        y.add(0, 0);
        y.way(0, GamutChain.FOLD);
        y.reach(0, 2, 0, 250);
        y.paint(0, 2, 255);
        for (int ink = 0; ink < 3; ink++) {
            y.spot(0, ink, 255);
            y.mix(ink, 2, 255);
        }
        Checks.due("cut ahead of the chain, folded by it", 245, y.shown(0, 0, 2, 0));
    }

    // "for each spot ink that it has not": none, some, all
    private static void inksOfTheDevice() {
        GamutChain x = Made.with(0, 1);
        for (int ink = 0; ink < 3; ink++) {
            x.spot(0, ink, 255);
            for (int band = 0; band < 3; band++) {
                x.mix(ink, band, (1 << ink) * (band + 1));
            }
        }
        for (int inks = 0; inks < 8; inks++) {
            for (int band = 0; band < 3; band++) {
                Checks.due("inks " + inks, (7 - inks) * (band + 1), x.shown(0, 0, band, inks));
            }
        }
        Checks.due("a pixel without inks", 0, x.shown(0, 1, 2, 0));
    }

    // "An object is used for at most 512 calls after it has been made"
    private static void theLastCall() {
        GamutChain x = Made.with(1, 1);
        x.add(0, 0);
        x.join(0, 0);
        for (int call = 5; call < 512; call += 3) {
            int value = call % 255;
            x.bend(0, 2, 4, value);
            Checks.due("call " + (call + 1), value, x.through(0, 2, 255));
            Checks.due("call " + (call + 2), 1, x.stale());
        }
        Checks.due("the 512th call", 255, x.joined(0, 2, 255));
        GamutChain y = new GamutChain();
        for (int call = 1; call < 512; call++) {
            Checks.thrown("refused", Checks.INDEX, () -> y.gap(0));
        }
        Checks.due("the 512th call after refused ones", 0, y.profile());
    }

    // An object's state is its own.
    private static void twoObjects() {
        GamutChain x = Made.busy(8, 6);
        String fresh = State.of(new GamutChain());
        GamutChain y = new GamutChain();
        x.paint(0, 0, 77);
        Checks.yes("a new object beside another", fresh.equals(State.of(y)));
        Checks.due("the other one has what is its own", 77, x.paint(0, 0, 0));
    }
}
