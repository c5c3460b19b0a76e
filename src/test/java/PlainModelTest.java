import java.util.Arrays;
import java.util.Random;

/** Holds all answers of the class for given weights against those of PlainDesk: every way, party and many m and k. */
public final class PlainModelTest extends DeskTest {
    private static final int MOST_UNITS = 10000;
    private static final int CALLS_OF_AN_OBJECT = 512;

    private final int[] weights;
    private final PlainDesk plain = new PlainDesk();
    private ShareDesk current;
    private int calls = CALLS_OF_AN_OBJECT;

    private PlainModelTest(int[] weights) {
        this.weights = weights;
        plain.begin(weights.length);
        for (int i = 0; i < weights.length; i++) {
            plain.weight(i, weights[i]);
        }
    }

    /** A new object is made before the calls of the old one are used up. */
    private ShareDesk forCall() {
        if (calls == CALLS_OF_AN_OBJECT) {
            current = desk(weights);
            calls = 1 + weights.length;
        }
        calls++;
        return current;
    }

    private void compareShares(int way, int most, int stride) {
        for (int each = 0; each <= most; each += stride) {
            int m = each;
            for (int i = 0; i < weights.length; i++) {
                int party = i;
                String call = "(" + way + ", " + m + ", " + i + ")";
                due("share" + call, plain.share(way, m, party), () -> forCall().share(way, m, party));
                due("over" + call, plain.over(way, m, party), () -> forCall().over(way, m, party));
            }
            if (m < MOST_UNITS) {
                due("next(" + way + ", " + m + ")", plain.next(way, m), () -> forCall().next(way, m));
            }
        }
    }

    private void compareLeast(int way, int k, int party, int m) {
        due("least(" + way + ", " + k + ", " + party + ")", m, () -> forCall().least(way, k, party));
    }

    /** Asked for where the share grows to a new height: the model would be slow with every k. */
    private void compareLeasts(int way, int most, int stride) {
        for (int party = 0; party < weights.length; party++) {
            int highest = 0;
            int nextAsked = 0;
            for (int m = 0; m <= most; m++) {
                highest = Math.max(highest, plain.share(way, m, party));
                if (highest >= nextAsked) {
                    compareLeast(way, highest, party, m);
                    nextAsked = highest + stride;
                }
            }
            compareLeast(way, highest + 1, party, plain.least(way, highest + 1, party));
        }
    }

    private static void compare(int most, int stride, int... weights) {
        sentence(Arrays.toString(weights));
        PlainModelTest test = new PlainModelTest(weights);
        for (int way = 0; way <= 2; way++) {
            test.compareShares(way, most, stride);
            test.compareLeasts(way, most, stride);
        }
    }

    private static int[] someWeights(Random random) {
        int[] weights = new int[1 + random.nextInt(8)];
        int[] bounds = {2, 4, 12, 100, 3000, 100001};
        int bound = bounds[random.nextInt(bounds.length)];
        for (int i = 0; i < weights.length; i++) {
            weights[i] = random.nextInt(8) == 0 ? 0 : random.nextInt(bound);
        }
        weights[random.nextInt(weights.length)] = bound - 1;
        return weights;
    }

    /** Small weights are alike most often, in their bids and their rests. */
    private static void allSmallWeights() {
        int most = 6;
        for (int a = 0; a <= most; a++) {
            for (int b = 0; b <= most; b++) {
                for (int c = 0; c <= most; c++) {
                    if (a + b + c > 0) {
                        compare(40, 1, a, b, c);
                    }
                }
            }
        }
    }

    public static void main(String[] args) {
        compare(MOST_UNITS, 1, 1);
        compare(MOST_UNITS, 1, 0, 100000);
        compare(MOST_UNITS, 1, 6, 6, 2);
        compare(MOST_UNITS, 1, 1, 1, 1, 1, 1, 1, 1, 1);
        compare(MOST_UNITS, 1, 100000, 100000, 100000, 100000, 100000, 100000, 100000, 100000);
        compare(MOST_UNITS, 1, 100000, 1, 99999, 0, 50000, 33333, 7, 2);
        compare(MOST_UNITS, 1, 1, 2, 3, 4, 6, 8, 12, 24);
        compare(MOST_UNITS, 1, 24, 12, 8, 6, 4, 3, 2, 1);
        compare(MOST_UNITS, 37, 100000, 100000, 100000, 100000, 100000, 100000, 100000, 1);
        compare(MOST_UNITS, 37, 1, 100000);
        allSmallWeights();
        // The seed is written out, so every run asks the same.
        Random random = new Random(20261115L);
        for (int i = 0; i < 150; i++) {
            compare(MOST_UNITS, 1 + random.nextInt(60), someWeights(random));
        }
        end();
    }
}
