/** Shares units that can not be divided among parties by their weights, in three ways. */
public final class ShareDesk {
    private static final int MOST_PARTIES = 8;
    private static final int MOST_WEIGHT = 100000;
    private static final int MOST_UNITS = 10000;
    private static final int FIRST_PARTIES = 2;

    private static final int WAY_OF_RESTS = 0;
    private static final int WAY_OF_ALL_DIVISORS = 1;
    private static final int WAY_OF_ODD_DIVISORS = 2;

    /** The greatest power of two that is not above MOST_UNITS. */
    private static final int WIDEST_STEP = 8192;

    private final int[] weights;
    private int parties;
    private int total;

    public ShareDesk() {
        weights = new int[MOST_PARTIES];
        parties = FIRST_PARTIES;
        total = 0;
    }

    public void begin(int n) throws IllegalArgumentException {
        if (n < 1 || n > MOST_PARTIES) {
            throw new IllegalArgumentException("the number of parties is not 1..8");
        }
        for (int i = 0; i < MOST_PARTIES; i++) {
            weights[i] = 0;
        }
        parties = n;
        total = 0;
    }

    public int weight(int party, int w) throws IllegalArgumentException {
        checkParty(party);
        if (w < 0 || w > MOST_WEIGHT) {
            throw new IllegalArgumentException("the weight is not 0..100000");
        }
        int before = weights[party];
        weights[party] = w;
        total += w - before;
        return before;
    }

    public int share(int way, int m, int party) throws IllegalArgumentException, IllegalStateException {
        checkWay(way);
        checkUnits(m, MOST_UNITS);
        checkParty(party);
        checkTotal();
        return unitsOf(way, m, party);
    }

    public long over(int way, int m, int party) throws IllegalArgumentException, IllegalStateException {
        checkWay(way);
        checkUnits(m, MOST_UNITS);
        checkParty(party);
        checkTotal();
        return (long) unitsOf(way, m, party) * total - (long) m * weights[party];
    }

    public int next(int way, int m) throws IllegalArgumentException, IllegalStateException {
        checkWay(way);
        checkUnits(m, MOST_UNITS - 1);
        checkTotal();
        int changed = -1;
        for (int i = 0; i < parties; i++) {
            if (unitsOf(way, m + 1, i) != unitsOf(way, m, i)) {
                if (changed >= 0) {
                    return -1;
                }
                changed = i;
            }
        }
        // All changes add up to one unit, so one that stands alone is one unit more.
        return changed;
    }

    public int least(int way, int k, int party) throws IllegalArgumentException, IllegalStateException {
        checkWay(way);
        checkParty(party);
        if (k < 0) {
            throw new IllegalArgumentException("the share is below 0");
        }
        checkTotal();
        if (k == 0) {
            return 0;
        }
        if (k > MOST_UNITS || weights[party] == 0) {
            return -1;
        }
        if (way == WAY_OF_RESTS) {
            return leastByRests(k, party);
        }
        long turn = turnOf(way, k, party);
        return turn <= MOST_UNITS ? (int) turn : -1;
    }

    public int count(int what) throws IllegalArgumentException {
        switch (what) {
            case 0:
                return parties;
            case 1:
                return total;
            case 2:
                return partiesWithWeight();
            default:
                throw new IllegalArgumentException("there is no such count");
        }
    }

    private static void checkWay(int way) {
        if (way < WAY_OF_RESTS || way > WAY_OF_ODD_DIVISORS) {
            throw new IllegalArgumentException("there is no such way");
        }
    }

    private static void checkUnits(int m, int most) {
        if (m < 0 || m > most) {
            throw new IllegalArgumentException("the number of units is out of range");
        }
    }

    private void checkParty(int party) {
        if (party < 0 || party >= parties) {
            throw new IllegalArgumentException("there is no such party");
        }
    }

    private void checkTotal() {
        if (total == 0) {
            throw new IllegalStateException("all weights are 0");
        }
    }

    private int partiesWithWeight() {
        int found = 0;
        for (int i = 0; i < parties; i++) {
            if (weights[i] != 0) {
                found++;
            }
        }
        return found;
    }

    private int unitsOf(int way, int m, int party) {
        return way == WAY_OF_RESTS ? unitsByRests(m, party) : unitsByTurns(way, m, party);
    }

    /**
     * The units that are left when all parts are rounded down are the sum of the rests divided by the
     * total, so a party gets one of them if fewer parties than that stand before it. A party without a rest
     * never does: each rest is below the total, so fewer units are left than there are parties with a rest.
     */
    private int unitsByRests(int m, int party) {
        long rest = restOf(m, party);
        long rests = 0;
        int ahead = 0;
        for (int i = 0; i < parties; i++) {
            long other = restOf(m, i);
            rests += other;
            if (other > rest || (other == rest && i < party)) {
                ahead++;
            }
        }
        int roundedDown = (int) ((long) m * weights[party] / total);
        return ahead < rests / total ? roundedDown + 1 : roundedDown;
    }

    private long restOf(int m, int party) {
        return (long) m * weights[party] % total;
    }

    /**
     * A party may lose a unit when there is one more to share, so every m is looked at in turn. The look
     * begins where the part reaches k - 1: a share is never more than one above the part rounded down.
     */
    private int leastByRests(int k, int party) {
        long first = (long) (k - 1) * total / weights[party];
        for (long m = first; m <= MOST_UNITS; m++) {
            if (unitsByRests((int) m, party) >= k) {
                return (int) m;
            }
        }
        return -1;
    }

    /** The greatest k whose turn has come, put together from powers of two: turns only grow with k. */
    private int unitsByTurns(int way, int m, int party) {
        if (weights[party] == 0) {
            return 0;
        }
        int k = 0;
        for (int step = WIDEST_STEP; step > 0; step /= 2) {
            if (turnOf(way, k + step, party) <= m) {
                k += step;
            }
        }
        return k;
    }

    /**
     * Which unit, counted from 1, is the k-th of a party whose weight is not 0. What a party bids for its
     * units falls from each to the next, so the units go out in the order of the bids, and those before this one
     * can be counted without giving them out.
     */
    private long turnOf(int way, int k, int party) {
        long turn = k;
        for (int i = 0; i < parties; i++) {
            if (i != party) {
                turn += unitsBefore(way, k, party, i);
            }
        }
        return turn;
    }

    /**
     * How many units a rival gets before the party gets its k-th. The rival's bid with a divisor d goes
     * first if weights[rival] / d is greater than weights[party] / divisorOf(k), or alike and the rival's number is
     * less. Multiplied out, nothing is rounded: d * weights[party] is below the reach, or the reach itself.
     */
    private long unitsBefore(int way, int k, int party, int rival) {
        if (weights[rival] == 0) {
            return 0;
        }
        long reach = divisorOf(way, k) * weights[rival];
        if (rival > party) {
            reach--;
        }
        long greatestDivisor = reach / weights[party];
        return way == WAY_OF_ALL_DIVISORS ? greatestDivisor : (greatestDivisor + 1) / 2;
    }

    /** By what the weight is divided for the k-th unit of a party, which has k - 1 so far. */
    private static long divisorOf(int way, int k) {
        return way == WAY_OF_ALL_DIVISORS ? k : 2L * k - 1;
    }
}
