/** All that the calls tell of an object, in one text. It takes the object to pieces, in at most 381 calls. */
final class State {
    private final GamutChain x;
    private final StringBuilder text = new StringBuilder();

    private State(GamutChain x) {
        this.x = x;
    }

    static String of(GamutChain x) {
        State state = new State(x);
        state.joinings();
        state.rows();
        state.profiles();
        state.picture();
        state.told("profile", x::profile);
        state.told("chain", x::chain);
        return state.text.toString();
    }

    private void told(String what, Checks.Call call) {
        text.append(what).append(' ').append(Checks.nameOf(call)).append('\n');
    }

    private void joinings() {
        told("stale", x::stale);
        told("held", x::held);
        for (int k = 0; k < 6; k++) {
            int chain = k;
            told("gap of " + chain, () -> x.gap(chain));
            told("grey gap of " + chain, () -> x.greyGap(chain));
            for (int at = 0; at < 15; at++) {
                int band = at / 5;
                int value = Made.PLACES[at % 5];
                told("joined " + chain + ", " + band + ", " + value, () -> x.joined(chain, band, value));
            }
        }
    }

    private void rows() {
        for (int k = 0; k < 6; k++) {
            int chain = k;
            String signed = Checks.nameOf(() -> x.sign(chain) ? 1 : 0);
            text.append("sign ").append(signed).append('\n');
            if (signed.equals("answered 1")) {
                // It was free, and must be again for its profiles to be dropped and bent.
                x.sign(chain);
            }
            String dropped = "answered";
            for (int n = 0; n < 7 && dropped.startsWith("answered"); n++) {
                dropped = Checks.nameOf(() -> x.drop(chain));
                text.append("drop ").append(dropped).append('\n');
            }
        }
    }

    private void profiles() {
        for (int k = 0; k < 8; k++) {
            int profile = k;
            told("way of " + profile, () -> x.way(profile, GamutChain.CUT));
            for (int b = 0; b < 3; b++) {
                int band = b;
                for (int p = 0; p < 5; p++) {
                    int place = p;
                    told("bend", () -> x.bend(profile, band, place, place == 4 ? 255 : 0));
                }
                told("least", () -> x.taken(profile, band, 0));
                told("greatest", () -> x.taken(profile, band, 255));
            }
        }
    }

    private void picture() {
        for (int k = 0; k < 18; k++) {
            int row = k / 3;
            int column = k % 3;
            told("paint", () -> x.paint(row, column, 0));
            told("spot", () -> x.spot(row, column, 0));
            if (row < 3) {
                told("mix", () -> x.mix(row, column, 0));
            }
        }
    }
}
