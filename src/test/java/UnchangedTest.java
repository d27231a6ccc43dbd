/** "A call that throws changes nothing": an object with throwing calls answers as one without them. */
public final class UnchangedTest {
    private static final int[] ODD = {-1, 0, 2, 3, 5, 6, 8, 256};

    public static void main(String[] args) {
        for (int call = 0; call < 17; call++) {
            GamutChain plain = built();
            GamutChain teased = built();
            tease(teased, call);
            compare(plain, teased, call);
        }
        Checks.end();
    }

    private static GamutChain built() {
        GamutChain x = new GamutChain();
        for (int k = 0; k < 8; k++) {
            x.profile();
        }
        for (int k = 0; k < 6; k++) {
            x.chain();
        }
        x.bend(0, 1, 2, 30);
        x.reach(0, 2, 20, 200);
        x.way(1, GamutChain.FOLD);
        x.reach(1, 0, 20, 140);
        x.join(1, 0);
        for (int k = 0; k < 6; k++) {
            x.add(0, k % 2);
        }
        x.add(1, 1);
        x.sign(0);
        x.sign(3);
        x.paint(1, 1, 90);
        x.spot(1, 2, 200);
        x.mix(2, 1, 100);
        return x;
    }

    /** Calls that throw alone: three arguments are odd, and those that would be answered are left out. */
    private static void tease(GamutChain x, int call) {
        Checks.thrown("profile", Checks.STATE, x::profile);
        Checks.thrown("chain", Checks.STATE, x::chain);
        for (int k = 0; k < 200; k++) {
            int a = ODD[k % 8];
            int b = ODD[(k / 8 + k) % 8];
            int c = ODD[(k / 5 + 2 * k) % 8];
            if (mustThrow(call, a, b, c)) {
                String got = Checks.nameOf(() -> called(x, call, a, b, c));
                Checks.yes("call " + call + " with " + a + ", " + b + ", " + c + ": " + got, !got.startsWith("answered"));
            }
        }
    }

    private static boolean in(int number, int least, int greatest) {
        return number >= least && number <= greatest;
    }

    private static boolean mustThrow(int call, int a, int b, int c) {
        boolean profile = in(a, 0, 7);
        boolean chain = in(a, 0, 5);
        boolean values = in(b, 0, 2) && in(c, 0, 255);
        return switch (call) {
            case 0, 1 -> !profile || !values || a == 0;
            case 2 -> !profile || !in(b, 0, 2) || a == 0;
            case 3, 4 -> !profile || !values;
            case 5 -> !chain || !in(b, 0, 7) || a == 0 || a == 3;
            case 6 -> !chain || a != 1;
            case 7 -> !chain || !values;
            case 8, 9, 12 -> !chain;
            case 10 -> !chain || !in(b, 0, 255) || (a == 0 && b < 15);
            case 11 -> !chain || !values || a != 1;
            case 13, 14 -> !in(a, 0, 5) || !values;
            case 15 -> !in(a, 0, 2) || !values;
            default -> !chain || !in(b, 0, 5) || !in(c, 0, 7);
        };
    }

    private static long called(GamutChain x, int call, int a, int b, int c) {
        return switch (call) {
            case 0 -> x.bend(a, b, 1, c);
            case 1 -> x.reach(a, b, c, 255);
            case 2 -> x.way(a, b);
            case 3 -> x.curve(a, b, c);
            case 4 -> x.taken(a, b, c);
            case 5 -> x.add(a, b);
            case 6 -> x.drop(a);
            case 7 -> x.through(a, b, c);
            case 8 -> x.gap(a);
            case 9 -> x.greyGap(a);
            case 10 -> x.join(a, b);
            case 11 -> x.joined(a, b, c);
            case 12 -> x.sign(a) ? 1 : 0;
            case 13 -> x.paint(a, b, c);
            case 14 -> x.spot(a, b, c);
            case 15 -> x.mix(a, b, c);
            default -> x.shown(a, b, 0, c);
        };
    }

    private static void compare(GamutChain plain, GamutChain teased, int call) {
        String what = "after call " + call + ", ";
        Checks.due(what + "stale", plain.stale(), teased.stale());
        Checks.due(what + "held", plain.held(), teased.held());
        for (int k = 0; k < 6; k++) {
            int no = k;
            Checks.due(what + "gap", plain.gap(k), teased.gap(k));
            Checks.due(what + "greyGap", plain.greyGap(k), teased.greyGap(k));
            for (int band = 0; band < 3; band++) {
                Checks.due(what + "shown", plain.shown(1, k, band, 0), teased.shown(1, k, band, 0));
                Checks.due(what + "paint", plain.paint(k, band, 0), teased.paint(k, band, 0));
                Checks.due(what + "spot", plain.spot(k, band, 0), teased.spot(k, band, 0));
            }
            Checks.due(what + "signed", plain.sign(k) ? 1 : 0, teased.sign(k) ? 1 : 0);
            if (k == 0 || k == 3) {
                Checks.due(what + "drop", k == 0 ? plain.drop(k) : -1, k == 0 ? teased.drop(k) : -1);
            }
            if (k == 1) {
                Checks.due(what + "joined", plain.joined(k, 0, 250), teased.joined(k, 0, 250));
            } else {
                Checks.thrown(what + "not joined", Checks.STATE, () -> teased.joined(no, 0, 0));
            }
            if (k != 0 && k != 3) {
                // The sign call above holds these; released, they show their last profile.
                Checks.due(what + "released", plain.sign(k) ? 1 : 0, teased.sign(k) ? 1 : 0);
                Checks.yes(what + "drop", Checks.nameOf(() -> plain.drop(no)).equals(Checks.nameOf(() -> teased.drop(no))));
            }
        }
        for (int k = 0; k < 8; k++) {
            Checks.due(what + "curve", plain.curve(k, 1, 100), teased.curve(k, 1, 100));
            for (int band = 0; band < 3; band++) {
                Checks.due(what + "reach", plain.reach(k, band, 0, 255), teased.reach(k, band, 0, 255));
                Checks.due(what + "bend", plain.bend(k, band, 1, 0), teased.bend(k, band, 1, 0));
            }
            Checks.due(what + "way", plain.way(k, 0), teased.way(k, 0));
        }
        for (int k = 0; k < 9; k++) {
            Checks.due(what + "mix", plain.mix(k / 3, k % 3, 0), teased.mix(k / 3, k % 3, 0));
        }
    }
}
