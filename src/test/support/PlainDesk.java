import java.util.ArrayList;
import java.util.List;

/**
 * The document's words carried out as they stand: units are given out one by one, rests are sought one by one, and
 * every m is looked at in turn. Slow, and without any of the class's own thoughts.
 */
final class PlainDesk {
    private static final int MOST_UNITS = 10000;

    private int[] weights = new int[2];
    /** For each way the shares of 0, 1, 2 .. units, as far as they have been asked for since the last change. */
    private List<List<int[]>> shares = noShares();

    private static List<List<int[]>> noShares() {
        return List.of(new ArrayList<>(), new ArrayList<>(), new ArrayList<>());
    }

    void begin(int n) {
        argument(n >= 1 && n <= 8);
        weights = new int[n];
        shares = noShares();
    }

    int weight(int party, int w) {
        argument(isParty(party) && w >= 0 && w <= 100000);
        int before = weights[party];
        weights[party] = w;
        shares = noShares();
        return before;
    }

    int share(int way, int m, int party) {
        argument(isWay(way) && m >= 0 && m <= MOST_UNITS && isParty(party));
        state(total() != 0);
        return sharesOf(way, m)[party];
    }

    long over(int way, int m, int party) {
        return share(way, m, party) * total() - (long) m * weights[party];
    }

    int next(int way, int m) {
        argument(isWay(way) && m >= 0 && m <= MOST_UNITS - 1);
        state(total() != 0);
        int[] few = sharesOf(way, m);
        int[] more = sharesOf(way, m + 1);
        int gainer = -1;
        for (int i = 0; i < few.length; i++) {
            if (more[i] == few[i] + 1 && gainer < 0) {
                gainer = i;
            } else if (more[i] != few[i]) {
                return -1;
            }
        }
        return gainer;
    }

    int least(int way, int k, int party) {
        argument(isWay(way) && k >= 0 && isParty(party));
        state(total() != 0);
        for (int m = 0; m <= MOST_UNITS; m++) {
            if (sharesOf(way, m)[party] >= k) {
                return m;
            }
        }
        return -1;
    }

    int count(int what) {
        argument(what >= 0 && what <= 2);
        if (what == 0) {
            return weights.length;
        }
        int found = 0;
        for (int w : weights) {
            found += w != 0 ? 1 : 0;
        }
        return what == 1 ? (int) total() : found;
    }

    private static void argument(boolean right) {
        if (!right) {
            throw new IllegalArgumentException();
        }
    }

    private static void state(boolean right) {
        if (!right) {
            throw new IllegalStateException();
        }
    }

    private static boolean isWay(int way) {
        return way >= 0 && way <= 2;
    }

    private boolean isParty(int party) {
        return party >= 0 && party < weights.length;
    }

    private long total() {
        long total = 0;
        for (int w : weights) {
            total += w;
        }
        return total;
    }

    private int[] sharesOf(int way, int m) {
        List<int[]> known = shares.get(way);
        while (known.size() <= m) {
            int units = known.size();
            if (units == 0) {
                known.add(new int[weights.length]);
            } else {
                known.add(way == 0 ? byRests(units) : withOneMore(way, known.get(units - 1)));
            }
        }
        return known.get(m);
    }

    private int[] byRests(int m) {
        long total = total();
        int[] got = new int[weights.length];
        boolean[] served = new boolean[weights.length];
        int left = m;
        for (int i = 0; i < weights.length; i++) {
            got[i] = (int) ((long) m * weights[i] / total);
            left -= got[i];
        }
        for (; left > 0; left--) {
            int best = -1;
            for (int i = 0; i < weights.length; i++) {
                if (!served[i] && (best < 0
                        || (long) m * weights[i] % total > (long) m * weights[best] % total)) {
                    best = i;
                }
            }
            served[best] = true;
            got[best]++;
        }
        return got;
    }

    private int[] withOneMore(int way, int[] before) {
        int best = 0;
        for (int i = 1; i < weights.length; i++) {
            // Two quotients are compared multiplied out, so that nothing is rounded.
            if (weights[i] * divisor(way, before[best]) > weights[best] * divisor(way, before[i])) {
                best = i;
            }
        }
        int[] more = before.clone();
        more[best]++;
        return more;
    }

    private static long divisor(int way, int s) {
        return way == 1 ? s + 1 : 2 * s + 1;
    }
}
