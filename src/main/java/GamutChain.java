public final class GamutChain {
    public static final int CUT = 0, SQUEEZE = 1, FOLD = 2;

    private static final int BANDS = 3, TOP = 255;
    private static final int PLACES = 5, STEP = 64, LAST_STEP = 63, LAST_PIECE = 3;
    private static final int MOST_PROFILES = 8, MOST_CHAINS = 6, MOST_LINKS = 6;
    private static final int PIXELS = 6, INKS = 3, ALL_INKS = 7;

    private int profiles;
    private final int[] bends = new int[MOST_PROFILES * BANDS * PLACES];
    private final int[] leasts = new int[MOST_PROFILES * BANDS];
    private final int[] greatests = new int[MOST_PROFILES * BANDS];
    private final int[] ways = new int[MOST_PROFILES];

    private int chains;
    private final int[] links = new int[MOST_CHAINS * MOST_LINKS];
    private final int[] lengths = new int[MOST_CHAINS];
    private final int[] kept = new int[MOST_CHAINS * BANDS * PLACES];
    private int joinedChains;
    private int signedChains;
    // One row for every trial of a joining, so that no call makes a new one.
    private final int[] trial = new int[BANDS * PLACES];

    private final int[] colours = new int[PIXELS * BANDS];
    private final int[] amounts = new int[PIXELS * INKS];
    private final int[] mixes = new int[INKS * BANDS];

    public GamutChain() {
    }

    // ---- profiles

    public int profile() throws IllegalStateException {
        if (profiles >= MOST_PROFILES) {
            throw new IllegalStateException("there are 8 profiles");
        }
        int number = profiles;
        for (int band = 0; band < BANDS; band++) {
            int row = number * BANDS + band;
            for (int place = 0; place < PLACES; place++) {
                swap(bends, row * PLACES + place, valueOfPlace(place));
            }
            swap(leasts, row, 0);
            swap(greatests, row, TOP);
        }
        swap(ways, number, CUT);
        profiles++;
        return number;
    }

    public int bend(int profile, int band, int place, int value)
            throws IndexOutOfBoundsException, IllegalArgumentException, IllegalStateException {
        needProfile(profile);
        needBand(band);
        if (place < 0 || place >= PLACES) {
            throw new IndexOutOfBoundsException("no such place");
        }
        needValue(value);
        needFreeProfile(profile);
        return swap(bends, (profile * BANDS + band) * PLACES + place, value);
    }

    public int reach(int profile, int band, int least, int greatest)
            throws IndexOutOfBoundsException, IllegalArgumentException, IllegalStateException {
        needProfile(profile);
        needBand(band);
        needValue(least);
        needValue(greatest);
        if (greatest < least) {
            throw new IllegalArgumentException("the greatest is below the least");
        }
        needFreeProfile(profile);
        int row = profile * BANDS + band;
        int leastBefore = swap(leasts, row, least);
        int greatestBefore = swap(greatests, row, greatest);
        return greatestBefore - leastBefore + 1;
    }

    public int way(int profile, int way)
            throws IndexOutOfBoundsException, IllegalArgumentException, IllegalStateException {
        needProfile(profile);
        if (way != CUT && way != SQUEEZE && way != FOLD) {
            throw new IllegalArgumentException("no such way");
        }
        needFreeProfile(profile);
        return swap(ways, profile, way);
    }

    public int curve(int profile, int band, int value)
            throws IndexOutOfBoundsException, IllegalArgumentException {
        needProfile(profile);
        needBand(band);
        needValue(value);
        return bent(profile, band, value);
    }

    public int taken(int profile, int band, int value)
            throws IndexOutOfBoundsException, IllegalArgumentException {
        needProfile(profile);
        needBand(band);
        needValue(value);
        return take(profile, band, value);
    }

    // ---- chains

    public int chain() throws IllegalStateException {
        if (chains >= MOST_CHAINS) {
            throw new IllegalStateException("there are 6 chains");
        }
        int number = chains;
        chains++;
        return number;
    }

    public int add(int chain, int profile) throws IndexOutOfBoundsException, IllegalStateException {
        needChain(chain);
        needProfile(profile);
        needFreeChain(chain);
        int length = read(lengths, chain);
        if (length >= MOST_LINKS) {
            throw new IllegalStateException("the chain has 6 profiles");
        }
        swap(links, chain * MOST_LINKS + length, profile);
        swap(lengths, chain, length + 1);
        return length + 1;
    }

    public int drop(int chain) throws IndexOutOfBoundsException, IllegalStateException {
        needChain(chain);
        needFreeChain(chain);
        int length = read(lengths, chain);
        if (length <= 0) {
            throw new IllegalStateException("the chain has no profile");
        }
        swap(lengths, chain, length - 1);
        return read(links, chain * MOST_LINKS + length - 1);
    }

    public int through(int chain, int band, int value)
            throws IndexOutOfBoundsException, IllegalArgumentException {
        needChain(chain);
        needBand(band);
        needValue(value);
        return pass(chain, band, value);
    }

    public int gap(int chain) throws IndexOutOfBoundsException {
        needChain(chain);
        return tryJoining(chain);
    }

    public int greyGap(int chain) throws IndexOutOfBoundsException {
        needChain(chain);
        int widest = 0;
        for (int value = 0; value <= TOP; value++) {
            int least = TOP;
            int greatest = 0;
            for (int band = 0; band < BANDS; band++) {
                int behind = pass(chain, band, value);
                least = Math.min(least, behind);
                greatest = Math.max(greatest, behind);
            }
            widest = Math.max(widest, greatest - least);
        }
        return widest;
    }

    public int join(int chain, int most)
            throws IndexOutOfBoundsException, IllegalArgumentException, IllegalStateException {
        needChain(chain);
        needValue(most);
        int widest = tryJoining(chain);
        if (widest > most) {
            throw new IllegalStateException("the gap is too great");
        }
        for (int k = 0; k < BANDS * PLACES; k++) {
            swap(kept, chain * BANDS * PLACES + k, read(trial, k));
        }
        joinedChains = joinedChains | 1 << chain;
        return widest;
    }

    public int joined(int chain, int band, int value)
            throws IndexOutOfBoundsException, IllegalArgumentException, IllegalStateException {
        needChain(chain);
        needBand(band);
        needValue(value);
        if (!hasBit(joinedChains, chain)) {
            throw new IllegalStateException("the chain is not joined");
        }
        return between(kept, (chain * BANDS + band) * PLACES, value);
    }

    public int stale() {
        int set = 0;
        for (int chain = 0; chain < MOST_CHAINS; chain++) {
            if (hasBit(joinedChains, chain) && differsFromKept(chain)) {
                set = set | 1 << chain;
            }
        }
        return set;
    }

    public boolean sign(int chain) throws IndexOutOfBoundsException {
        needChain(chain);
        signedChains = signedChains ^ 1 << chain;
        return hasBit(signedChains, chain);
    }

    public int held() {
        int set = 0;
        for (int chain = 0; chain < MOST_CHAINS; chain++) {
            if (hasBit(signedChains, chain)) {
                set = set | profilesOf(chain);
            }
        }
        return set;
    }

    // ---- the picture

    public int paint(int pixel, int band, int value)
            throws IndexOutOfBoundsException, IllegalArgumentException {
        needPixel(pixel);
        needBand(band);
        needValue(value);
        return swap(colours, pixel * BANDS + band, value);
    }

    public int spot(int pixel, int ink, int amount)
            throws IndexOutOfBoundsException, IllegalArgumentException {
        needPixel(pixel);
        needInk(ink);
        needValue(amount);
        return swap(amounts, pixel * INKS + ink, amount);
    }

    public int mix(int ink, int band, int value)
            throws IndexOutOfBoundsException, IllegalArgumentException {
        needInk(ink);
        needBand(band);
        needValue(value);
        return swap(mixes, ink * BANDS + band, value);
    }

    public int shown(int chain, int pixel, int band, int inks)
            throws IndexOutOfBoundsException, IllegalArgumentException {
        needChain(chain);
        needPixel(pixel);
        needBand(band);
        if (inks < 0 || inks > ALL_INKS) {
            throw new IllegalArgumentException("no such set of inks");
        }
        return pass(chain, band, inked(pixel, band, inks));
    }

    // ---- what the calls need

    private void needProfile(int profile) {
        if (profile < 0 || profile >= profiles) {
            throw new IndexOutOfBoundsException("no such profile");
        }
    }

    private void needChain(int chain) {
        if (chain < 0 || chain >= chains) {
            throw new IndexOutOfBoundsException("no such chain");
        }
    }

    private static void needBand(int band) {
        if (band < 0 || band >= BANDS) {
            throw new IndexOutOfBoundsException("no such band");
        }
    }

    private static void needPixel(int pixel) {
        if (pixel < 0 || pixel >= PIXELS) {
            throw new IndexOutOfBoundsException("no such pixel");
        }
    }

    private static void needInk(int ink) {
        if (ink < 0 || ink >= INKS) {
            throw new IndexOutOfBoundsException("no such ink");
        }
    }

    private static void needValue(int value) {
        if (value < 0 || value > TOP) {
            throw new IllegalArgumentException("out of 0 to 255");
        }
    }

    private void needFreeProfile(int profile) {
        if (hasBit(held(), profile)) {
            throw new IllegalStateException("the profile is held");
        }
    }

    private void needFreeChain(int chain) {
        if (hasBit(signedChains, chain)) {
            throw new IllegalStateException("the chain is held");
        }
    }

    // ---- values on their way

    private static int valueOfPlace(int place) {
        return Math.min(place * STEP, TOP);
    }

    private static int between(int[] row, int first, int value) {
        int piece = value / STEP;
        int c = read(row, first + piece);
        int d = read(row, first + piece + 1);
        // The last place is 255 and not 256, so the last piece is shorter and ends on its place.
        int width = piece == LAST_PIECE ? LAST_STEP : STEP;
        return c + Math.floorDiv((d - c) * (value - piece * STEP), width);
    }

    private int bent(int profile, int band, int value) {
        return between(bends, (profile * BANDS + band) * PLACES, value);
    }

    private int take(int profile, int band, int value) {
        int least = read(leasts, profile * BANDS + band);
        int greatest = read(greatests, profile * BANDS + band);
        int found = bent(profile, band, value);
        int way = read(ways, profile);
        if (way == SQUEEZE) {
            return least + found * (greatest - least) / TOP;
        }
        if (way == FOLD) {
            found = fold(found, least, greatest);
        }
        return Math.max(least, Math.min(greatest, found));
    }

    private static int fold(int value, int least, int greatest) {
        if (value > greatest) {
            return greatest - (value - greatest);
        }
        if (value < least) {
            return least + (least - value);
        }
        return value;
    }

    private int pass(int chain, int band, int value) {
        int length = read(lengths, chain);
        int found = value;
        for (int k = 0; k < length; k++) {
            found = take(read(links, chain * MOST_LINKS + k), band, found);
        }
        return found;
    }

    // Leaves the curves that a joining would keep in the trial row and answers the gap.
    private int tryJoining(int chain) {
        int widest = 0;
        for (int band = 0; band < BANDS; band++) {
            for (int place = 0; place < PLACES; place++) {
                swap(trial, band * PLACES + place, pass(chain, band, valueOfPlace(place)));
            }
            for (int value = 0; value <= TOP; value++) {
                int apart = pass(chain, band, value) - between(trial, band * PLACES, value);
                widest = Math.max(widest, Math.abs(apart));
            }
        }
        return widest;
    }

    private boolean differsFromKept(int chain) {
        for (int band = 0; band < BANDS; band++) {
            for (int place = 0; place < PLACES; place++) {
                int before = read(kept, (chain * BANDS + band) * PLACES + place);
                if (pass(chain, band, valueOfPlace(place)) != before) {
                    return true;
                }
            }
        }
        return false;
    }

    private int profilesOf(int chain) {
        int length = read(lengths, chain);
        int set = 0;
        for (int k = 0; k < length; k++) {
            set = set | 1 << read(links, chain * MOST_LINKS + k);
        }
        return set;
    }

    private int inked(int pixel, int band, int inks) {
        int value = read(colours, pixel * BANDS + band);
        for (int ink = 0; ink < INKS; ink++) {
            if (!hasBit(inks, ink)) {
                int more = read(mixes, ink * BANDS + band) * read(amounts, pixel * INKS + ink) / TOP;
                value = Math.min(TOP, value + more);
            }
        }
        return value;
    }

    // ---- rows and sets

    // The calls look at their arguments first; the test here keeps the machine from throwing in any state.
    private static int read(int[] row, int index) {
        return row != null && index >= 0 && index < row.length ? row[index] : 0;
    }

    private static int swap(int[] row, int index, int value) {
        if (row == null || index < 0 || index >= row.length) {
            return 0;
        }
        int before = row[index];
        row[index] = value;
        return before;
    }

    private static boolean hasBit(int set, int bit) {
        return (set >> bit & 1) == 1;
    }
}
