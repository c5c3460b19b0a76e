import java.util.Random;

/** Whole lives of objects: runs of 512 calls of all kinds, wrong ones among them, each held against PlainDesk. */
public final class MixedRunsTest extends DeskTest {
    private static final int RUNS = 400;
    private static final int CALLS_OF_AN_OBJECT = 512;
    private static final int[] WRONG = {-1, Integer.MIN_VALUE, Integer.MAX_VALUE};
    private static final int[] MOST_UNITS_ASKED = {12, 60, 400, 10000};
    private static final int[] MOST_WEIGHTS = {1, 3, 10, 100, 1000, 100000};

    private final Random random;
    private final ShareDesk desk = new ShareDesk();
    private final PlainDesk plain = new PlainDesk();
    private final int mostUnits;
    private final int mostWeight;

    private MixedRunsTest(Random random) {
        this.random = random;
        mostUnits = oneOf(MOST_UNITS_ASKED);
        mostWeight = oneOf(MOST_WEIGHTS);
    }

    private int oneOf(int... numbers) {
        return numbers[random.nextInt(numbers.length)];
    }

    /** A number from 0 to most, but now and then an edge of it or one that lies far outside. */
    private int upTo(int most) {
        return switch (random.nextInt(40)) {
            case 0 -> oneOf(WRONG);
            case 1 -> most + 1;
            case 2 -> most;
            case 3 -> 0;
            default -> random.nextInt(most + 1);
        };
    }

    private int someUnits() {
        return random.nextInt(20) == 0 ? oneOf(9999, 10000, 10001) : upTo(mostUnits);
    }

    private int someParty() {
        return upTo(plain.count(0) - 1);
    }

    private void expect(String call, Call due, Call got) {
        due(call, outcome(due), got);
    }

    private void callBegin() {
        int n = oneOf(0, 1, 2, 3, 4, 5, 6, 7, 8, 9);
        expect("begin(" + n + ")", () -> {
            plain.begin(n);
            return 0;
        }, () -> begin(desk, n));
    }

    private void callWeight() {
        int party = someParty();
        int w = random.nextInt(10) == 0 ? oneOf(0, 99999, 100000, 100001) : upTo(mostWeight);
        expect("weight(" + party + ", " + w + ")", () -> plain.weight(party, w), () -> desk.weight(party, w));
    }

    private void callShare() {
        int way = upTo(2);
        int m = someUnits();
        int party = someParty();
        expect("share(" + way + ", " + m + ", " + party + ")",
                () -> plain.share(way, m, party), () -> desk.share(way, m, party));
    }

    private void callOver() {
        int way = upTo(2);
        int m = someUnits();
        int party = someParty();
        expect("over(" + way + ", " + m + ", " + party + ")",
                () -> plain.over(way, m, party), () -> desk.over(way, m, party));
    }

    private void callNext() {
        int way = upTo(2);
        int m = someUnits();
        expect("next(" + way + ", " + m + ")", () -> plain.next(way, m), () -> desk.next(way, m));
    }

    private void callLeast() {
        int way = upTo(2);
        int k = random.nextInt(3) == 0 ? someUnits() : upTo(mostUnits / plain.count(0));
        int party = someParty();
        expect("least(" + way + ", " + k + ", " + party + ")",
                () -> plain.least(way, k, party), () -> desk.least(way, k, party));
    }

    private void callCount() {
        int what = upTo(2);
        expect("count(" + what + ")", () -> plain.count(what), () -> desk.count(what));
    }

    private void callOne() {
        int kind = random.nextInt(100);
        if (kind < 1) {
            callBegin();
        } else if (kind < 11) {
            callWeight();
        } else if (kind < 36) {
            callShare();
        } else if (kind < 56) {
            callOver();
        } else if (kind < 76) {
            callNext();
        } else if (kind < 95) {
            callLeast();
        } else {
            callCount();
        }
    }

    public static void main(String[] args) {
        // The seed is written out, so every run asks the same.
        Random random = new Random(512L);
        for (int run = 1; run <= RUNS; run++) {
            MixedRunsTest test = new MixedRunsTest(random);
            for (int call = 1; call <= CALLS_OF_AN_OBJECT; call++) {
                sentence("run " + run + ", call " + call);
                test.callOne();
            }
        }
        end();
    }
}
