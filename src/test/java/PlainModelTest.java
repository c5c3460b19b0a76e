import java.util.Arrays;
import java.util.Random;

/**
 * Holds the class against the document's words carried out as they stand: units are given out one by one and
 * rests are sought one by one, for every m, every party and every way.
 */
public final class PlainModelTest {
    private static final int MOST_UNITS = 10000;
    private static final int CALLS_OF_AN_OBJECT = 512;

    private static int wrong = 0;

    /** Makes a new object before the calls of the old one are used up. */
    private static final class Desks {
        private final int[] weights;
        private ShareDesk desk;
        private int calls;

        Desks(int[] weights) {
            this.weights = weights;
            calls = CALLS_OF_AN_OBJECT;
        }

        ShareDesk forCall() {
            if (calls == CALLS_OF_AN_OBJECT) {
                desk = new ShareDesk();
                desk.begin(weights.length);
                for (int i = 0; i < weights.length; i++) {
                    desk.weight(i, weights[i]);
                }
                calls = 1 + weights.length;
            }
            calls++;
            return desk;
        }
    }

    private static int[] byRests(int[] weights, int m) {
        long total = Arrays.stream(weights).asLongStream().sum();
        int[] shares = new int[weights.length];
        boolean[] served = new boolean[weights.length];
        int left = m;
        for (int i = 0; i < weights.length; i++) {
            shares[i] = (int) ((long) m * weights[i] / total);
            left -= shares[i];
        }
        for (; left > 0; left--) {
            int best = -1;
            for (int i = 0; i < weights.length; i++) {
                if (!served[i] && (best < 0
                        || (long) m * weights[i] % total > (long) m * weights[best] % total)) {
                    best = i;
                }
            }
            served[best] = true;
            shares[best]++;
        }
        return shares;
    }

    private static int[] withOneMore(int way, int[] weights, int[] shares) {
        int best = 0;
        for (int i = 1; i < weights.length; i++) {
            long divisor = way == 1 ? shares[i] + 1 : 2 * shares[i] + 1;
            long bestDivisor = way == 1 ? shares[best] + 1 : 2 * shares[best] + 1;
            if (weights[i] * bestDivisor > weights[best] * divisor) {
                best = i;
            }
        }
        int[] more = shares.clone();
        more[best]++;
        return more;
    }

    private static int[][] allShares(int way, int[] weights) {
        int[][] all = new int[MOST_UNITS + 1][];
        all[0] = new int[weights.length];
        for (int m = 1; m <= MOST_UNITS; m++) {
            all[m] = way == 0 ? byRests(weights, m) : withOneMore(way, weights, all[m - 1]);
        }
        return all;
    }

    private static int nextOf(int[] few, int[] more) {
        int gainer = -1;
        for (int i = 0; i < few.length; i++) {
            if (more[i] == few[i] + 1 && gainer < 0) {
                gainer = i;
            } else if (more[i] != few[i]) {
                return -1;
            }
        }
        return gainer;
    }

    private static void due(String call, int[] weights, long got, long want) {
        if (got != want) {
            wrong++;
            if (wrong <= 20) {
                System.out.println(Arrays.toString(weights) + ": " + call + " answered " + got + ", due is " + want);
            }
        }
    }

    private static void compareShares(Desks desks, int way, int[][] all, int stride) {
        int[] weights = desks.weights;
        long total = Arrays.stream(weights).asLongStream().sum();
        for (int m = 0; m <= MOST_UNITS; m += stride) {
            for (int i = 0; i < weights.length; i++) {
                String call = "(" + way + ", " + m + ", " + i + ")";
                due("share" + call, weights, desks.forCall().share(way, m, i), all[m][i]);
                due("over" + call, weights, desks.forCall().over(way, m, i),
                        all[m][i] * total - (long) m * weights[i]);
            }
            if (m < MOST_UNITS) {
                due("next(" + way + ", " + m + ")", weights, desks.forCall().next(way, m),
                        nextOf(all[m], all[m + 1]));
            }
        }
    }

    private static void compareLeast(Desks desks, int way, int[][] all, int stride) {
        int[] weights = desks.weights;
        for (int i = 0; i < weights.length; i++) {
            int most = 0;
            int nextAsked = 0;
            for (int m = 0; m <= MOST_UNITS; m++) {
                if (m == 0 || all[m][i] > most) {
                    most = all[m][i];
                    if (most >= nextAsked) {
                        due("least(" + way + ", " + most + ", " + i + ")", weights,
                                desks.forCall().least(way, most, i), m);
                        nextAsked = most + stride;
                    }
                }
            }
            due("least(" + way + ", " + (most + 1) + ", " + i + ")", weights,
                    desks.forCall().least(way, most + 1, i), -1);
        }
    }

    private static void compare(int stride, int... weights) {
        Desks desks = new Desks(weights);
        for (int way = 0; way <= 2; way++) {
            int[][] all = allShares(way, weights);
            compareShares(desks, way, all, stride);
            compareLeast(desks, way, all, stride);
        }
    }

    private static int[] someWeights(Random random) {
        int[] weights = new int[1 + random.nextInt(8)];
        int[] bounds = {2, 4, 12, 100, 3000, 100001};
        int bound = bounds[random.nextInt(bounds.length)];
        for (int i = 0; i < weights.length; i++) {
            weights[i] = random.nextInt(8) == 0 ? 0 : random.nextInt(bound);
        }
        weights[random.nextInt(weights.length)] = bound - 1;
        return weights;
    }

    public static void main(String[] args) {
        compare(1, 1);
        compare(1, 0, 100000);
        compare(1, 6, 6, 2);
        compare(1, 1, 1, 1, 1, 1, 1, 1, 1);
        compare(1, 100000, 100000, 100000, 100000, 100000, 100000, 100000, 100000);
        compare(1, 100000, 1, 99999, 0, 50000, 33333, 7, 2);
        compare(1, 1, 2, 3, 4, 6, 8, 12, 24);
        compare(1, 24, 12, 8, 6, 4, 3, 2, 1);
        compare(37, 100000, 100000, 100000, 100000, 100000, 100000, 100000, 1);
        compare(37, 1, 100000);
        // The seed is written out, so every run asks the same.
        Random random = new Random(20261115L);
        for (int i = 0; i < 150; i++) {
            compare(1 + random.nextInt(60), someWeights(random));
        }
        System.out.println(wrong == 0 ? "all answers are as due" : wrong + " answers are not as due");
        if (wrong != 0) {
            System.exit(1);
        }
    }
}
