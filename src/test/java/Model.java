import java.util.ArrayList;
import java.util.List;
import java.util.TreeMap;
import java.util.TreeSet;

/** The document a second time, by lists and maps, for ModelTest to compare with. */
final class Model {
    private static final int[] AT = {0, 64, 128, 192, 255};

    private static final class Profile {
        final List<TreeMap<Integer, Integer>> curves = new ArrayList<>();
        final int[] least = new int[3];
        final int[] greatest = {255, 255, 255};
        int way = 0;

        Profile() {
            for (int band = 0; band < 3; band++) {
                TreeMap<Integer, Integer> curve = new TreeMap<>();
                for (int at : AT) {
                    curve.put(at, at);
                }
                curves.add(curve);
            }
        }

        int takes(int band, int value) {
            int v = onCurve(curves.get(band), value);
            int l = least[band];
            int g = greatest[band];
            if (way == 1) {
                return (l * 255 + v * (g - l)) / 255;
            }
            if (way == 2 && v > g) {
                v = 2 * g - v;
            } else if (way == 2 && v < l) {
                v = 2 * l - v;
            }
            return v < l ? l : v > g ? g : v;
        }
    }

    private static final class Chain {
        final List<Integer> row = new ArrayList<>();
        List<TreeMap<Integer, Integer>> kept = null;
        boolean signed = false;
    }

    private final List<Profile> profiles = new ArrayList<>();
    private final List<Chain> chains = new ArrayList<>();
    private final int[][] colours = new int[6][3];
    private final int[][] amounts = new int[6][3];
    private final int[][] mixes = new int[3][3];

    private static int onCurve(TreeMap<Integer, Integer> curve, int value) {
        if (curve.containsKey(value)) {
            return curve.get(value);
        }
        int a = curve.lowerKey(value);
        int b = curve.higherKey(value);
        int c = curve.get(a);
        int d = curve.get(b);
        int times = (d - c) * (value - a);
        int whole = times / (b - a);
        return c + (whole * (b - a) > times ? whole - 1 : whole);
    }

    private static void index(int number, int count) {
        if (number < 0 || number >= count) {
            throw new IndexOutOfBoundsException();
        }
    }

    private static void range(int number, int least, int greatest) {
        if (number < least || number > greatest) {
            throw new IllegalArgumentException();
        }
    }

    private static void state(boolean fine) {
        if (!fine) {
            throw new IllegalStateException();
        }
    }

    private TreeSet<Integer> heldSet() {
        TreeSet<Integer> set = new TreeSet<>();
        for (Chain chain : chains) {
            if (chain.signed) {
                set.addAll(chain.row);
            }
        }
        return set;
    }

    int profile() {
        state(profiles.size() < 8);
        profiles.add(new Profile());
        return profiles.size() - 1;
    }

    int bend(int profile, int band, int place, int value) {
        index(profile, profiles.size());
        index(band, 3);
        index(place, 5);
        range(value, 0, 255);
        state(!heldSet().contains(profile));
        return profiles.get(profile).curves.get(band).put(AT[place], value);
    }

    int reach(int profile, int band, int least, int greatest) {
        index(profile, profiles.size());
        index(band, 3);
        range(least, 0, 255);
        range(greatest, least, 255);
        state(!heldSet().contains(profile));
        Profile p = profiles.get(profile);
        int before = p.greatest[band] + 1 - p.least[band];
        p.least[band] = least;
        p.greatest[band] = greatest;
        return before;
    }

    int way(int profile, int way) {
        index(profile, profiles.size());
        range(way, 0, 2);
        state(!heldSet().contains(profile));
        int before = profiles.get(profile).way;
        profiles.get(profile).way = way;
        return before;
    }

    int curve(int profile, int band, int value) {
        index(profile, profiles.size());
        index(band, 3);
        range(value, 0, 255);
        return onCurve(profiles.get(profile).curves.get(band), value);
    }

    int taken(int profile, int band, int value) {
        index(profile, profiles.size());
        index(band, 3);
        range(value, 0, 255);
        return profiles.get(profile).takes(band, value);
    }

    int chain() {
        state(chains.size() < 6);
        chains.add(new Chain());
        return chains.size() - 1;
    }

    int add(int chain, int profile) {
        index(chain, chains.size());
        index(profile, profiles.size());
        Chain c = chains.get(chain);
        state(!c.signed && c.row.size() < 6);
        c.row.add(profile);
        return c.row.size();
    }

    int drop(int chain) {
        index(chain, chains.size());
        Chain c = chains.get(chain);
        state(!c.signed && !c.row.isEmpty());
        return c.row.remove(c.row.size() - 1);
    }

    private int passed(Chain chain, int band, int value) {
        int v = value;
        for (int profile : chain.row) {
            v = profiles.get(profile).takes(band, v);
        }
        return v;
    }

    private List<TreeMap<Integer, Integer>> curvesOf(Chain chain) {
        List<TreeMap<Integer, Integer>> curves = new ArrayList<>();
        for (int band = 0; band < 3; band++) {
            TreeMap<Integer, Integer> curve = new TreeMap<>();
            for (int at : AT) {
                curve.put(at, passed(chain, band, at));
            }
            curves.add(curve);
        }
        return curves;
    }

    int through(int chain, int band, int value) {
        index(chain, chains.size());
        index(band, 3);
        range(value, 0, 255);
        return passed(chains.get(chain), band, value);
    }

    int gap(int chain) {
        index(chain, chains.size());
        Chain c = chains.get(chain);
        List<TreeMap<Integer, Integer>> curves = curvesOf(c);
        TreeSet<Integer> differences = new TreeSet<>();
        for (int k = 0; k < 768; k++) {
            differences.add(Math.abs(passed(c, k / 256, k % 256) - onCurve(curves.get(k / 256), k % 256)));
        }
        return differences.last();
    }

    int greyGap(int chain) {
        index(chain, chains.size());
        Chain c = chains.get(chain);
        TreeSet<Integer> differences = new TreeSet<>();
        for (int v = 0; v < 256; v++) {
            for (int band = 0; band < 3; band++) {
                differences.add(Math.abs(passed(c, band, v) - passed(c, (band + 1) % 3, v)));
            }
        }
        return differences.last();
    }

    int join(int chain, int most) {
        index(chain, chains.size());
        range(most, 0, 255);
        int found = gap(chain);
        state(found <= most);
        chains.get(chain).kept = curvesOf(chains.get(chain));
        return found;
    }

    int joined(int chain, int band, int value) {
        index(chain, chains.size());
        index(band, 3);
        range(value, 0, 255);
        state(chains.get(chain).kept != null);
        return onCurve(chains.get(chain).kept.get(band), value);
    }

    int stale() {
        int set = 0;
        for (int k = 0; k < chains.size(); k++) {
            Chain c = chains.get(k);
            if (c.kept != null && !c.kept.equals(curvesOf(c))) {
                set += 1 << k;
            }
        }
        return set;
    }

    boolean sign(int chain) {
        index(chain, chains.size());
        chains.get(chain).signed = !chains.get(chain).signed;
        return chains.get(chain).signed;
    }

    int held() {
        int set = 0;
        for (int profile : heldSet()) {
            set += 1 << profile;
        }
        return set;
    }

    int paint(int pixel, int band, int value) {
        return put(colours, pixel, band, value);
    }

    int spot(int pixel, int ink, int amount) {
        return put(amounts, pixel, ink, amount);
    }

    int mix(int ink, int band, int value) {
        return put(mixes, ink, band, value);
    }

    private static int put(int[][] table, int row, int column, int value) {
        index(row, table.length);
        index(column, 3);
        range(value, 0, 255);
        int before = table[row][column];
        table[row][column] = value;
        return before;
    }

    int shown(int chain, int pixel, int band, int inks) {
        index(chain, chains.size());
        index(pixel, 6);
        index(band, 3);
        range(inks, 0, 7);
        int v = colours[pixel][band];
        for (int ink = 0; ink < 3; ink++) {
            boolean has = inks / (1 << ink) % 2 == 1;
            v = has ? v : Math.min(255, v + mixes[ink][band] * amounts[pixel][ink] / 255);
        }
        return passed(chains.get(chain), band, v);
    }
}
