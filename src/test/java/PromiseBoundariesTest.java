import java.util.Arrays;

/** The boundary cases of promises 1 to 8, sentence by sentence, on both sides of each. */
public final class PromiseBoundariesTest extends DeskTest {
    private static final int[] THREE = {6, 6, 2};
    private static final int[] NONE = {0, 0};
    private static final int[] WRONG_WAYS = {-1, 3, Integer.MIN_VALUE, Integer.MAX_VALUE};

    private static void newObjectHasTwoParties() {
        sentence("ShareDesk(): 2 PARTIES");
        due("count(0)", 2, () -> new ShareDesk().count(0));
        due("weight(0, 1)", 0, () -> new ShareDesk().weight(0, 1));
        due("weight(1, 1)", 0, () -> new ShareDesk().weight(1, 1));
        for (int party : new int[] {-1, 2}) {
            ShareDesk desk = new ShareDesk();
            due("weight(" + party + ", 1)", ARGUMENT, () -> desk.weight(party, 1));
            due("share(0, 1, " + party + ")", ARGUMENT, () -> desk.share(0, 1, party));
            holds("after party " + party, desk, NONE);
        }
    }

    private static void newObjectHasNoWeights() {
        sentence("ShareDesk(): 2 PARTIES of WEIGHT 0");
        counts("new", new ShareDesk(), 2, 0, 0);
        holds("new", new ShareDesk(), NONE);
        for (int way = 0; way <= 2; way++) {
            int each = way;
            due("share", STATE, () -> new ShareDesk().share(each, 0, 0));
            ShareDesk used = new ShareDesk();
            used.weight(1, 1);
            due("share after the first weight", 1, () -> used.share(each, 1, 1));
        }
        ShareDesk inUse = desk(THREE);
        ShareDesk beside = new ShareDesk();
        counts("new beside one in use", beside, 2, 0, 0);
        counts("in use beside a new one", inUse, 3, 14, 3);
        due("share in use beside a new one", 4, () -> inUse.share(0, 10, 0));
        beside.weight(0, 1);
        counts("in use beside another in use", inUse, 3, 14, 3);
        counts("another in use", beside, 2, 1, 1);
    }

    private static void beginMakesWeights0() {
        sentence("begin: n PARTIES of WEIGHT 0");
        for (int before : new int[] {1, 2, 8}) {
            for (int n = 1; n <= 8; n++) {
                int parties = n;
                int[] weights = new int[before];
                Arrays.fill(weights, 100000);
                ShareDesk desk = desk(weights);
                due("begin(" + n + ") after " + before, 0, () -> begin(desk, parties));
                holds("after begin(" + n + ") after " + before, desk, new int[n]);
            }
        }
        ShareDesk grown = desk(1, 2, 3, 4, 5, 6, 7, 8);
        grown.begin(1);
        grown.weight(0, 9);
        grown.begin(8);
        holds("after begin(1) and begin(8)", grown, new int[8]);
        grown.weight(7, 1);
        holds("and the last one's weight", grown, 0, 0, 0, 0, 0, 0, 0, 1);
    }

    private static void beginFrom1To8() {
        sentence("IllegalArgumentException: n is not 1..8");
        due("begin(1)", 1, () -> begin(desk(THREE), 1) + 1);
        due("begin(8)", 1, () -> begin(desk(THREE), 8) + 1);
        for (int n : new int[] {0, 9, -1, Integer.MIN_VALUE, Integer.MAX_VALUE}) {
            refused("begin(" + n + ")", ARGUMENT, THREE, x -> begin(x, n));
            refused("begin(" + n + ")", ARGUMENT, NONE, x -> begin(x, n));
            ShareDesk fresh = new ShareDesk();
            due("begin(" + n + ") first", ARGUMENT, () -> begin(fresh, n));
            holds("after begin(" + n + ") first", fresh, NONE);
        }
    }

    private static void weightAnswersWhatItWas() {
        sentence("The WEIGHT of a PARTY: what it was");
        ShareDesk desk = desk(new int[8]);
        int[] given = {1, 100000, 100000, 0, 0, 99999, 5};
        int was = 0;
        for (int w : given) {
            int before = was;
            due("weight(7, " + w + ")", before, () -> desk.weight(7, w));
            was = w;
        }
        due("weight(7, 100001)", ARGUMENT, () -> desk.weight(7, 100001));
        due("weight(7, -1)", ARGUMENT, () -> desk.weight(7, -1));
        due("weight after refused ones", 5, () -> desk.weight(7, 6));
        due("weight of the neighbour", 0, () -> desk.weight(6, 0));
        holds("after weights of the last", desk, 0, 0, 0, 0, 0, 0, 0, 6);
    }

    private static void weightOfNoSuchParty() {
        sentence("IllegalArgumentException: there is no such PARTY, or w is not 0..100000");
        due("weight(0, 0)", 6, () -> desk(THREE).weight(0, 0));
        due("weight(2, 100000)", 2, () -> desk(THREE).weight(2, 100000));
        for (int party : new int[] {-1, 3, 7, 8}) {
            for (int w : new int[] {-1, 0, 100000, 100001}) {
                refused("weight(" + party + ", " + w + ")", ARGUMENT, THREE, x -> x.weight(party, w));
            }
        }
        for (int party : new int[] {0, 2}) {
            for (int w : new int[] {-1, 100001}) {
                refused("weight(" + party + ", " + w + ")", ARGUMENT, THREE, x -> x.weight(party, w));
            }
        }
    }

    private static void shareOfNoSuchWay() {
        sentence("share: IllegalArgumentException: there is no such WAY");
        shares(desk(53, 24, 23), 0, 7, 4, 2, 1);
        shares(desk(53, 24, 23), 1, 8, 4, 2, 2);
        shares(desk(53, 24, 23), 2, 7, 3, 2, 2);
        for (int way : WRONG_WAYS) {
            for (int m : new int[] {0, 1, 10000}) {
                refused("share(" + way + ", " + m + ", 0)", ARGUMENT, THREE, x -> x.share(way, m, 0));
            }
        }
        sentence("(here and below)");
        for (int way : WRONG_WAYS) {
            refused("over(" + way + ", 0, 0)", ARGUMENT, THREE, x -> x.over(way, 0, 0));
            refused("next(" + way + ", 0)", ARGUMENT, THREE, x -> x.next(way, 0));
            refused("least(" + way + ", 0, 0)", ARGUMENT, THREE, x -> x.least(way, 0, 0));
            refused("least(" + way + ", 10001, 0)", ARGUMENT, THREE, x -> x.least(way, 10001, 0));
        }
    }

    private static void shareOfTooFewOrTooManyUnits() {
        sentence("share: m is not 0..10000");
        for (int way = 0; way <= 2; way++) {
            int each = way;
            due("share of 0", 0, () -> desk(THREE).share(each, 0, 2));
            due("share of 10000", 10000, () -> desk(0, 0, 1).share(each, 10000, 2));
            for (int m : new int[] {-1, 10001}) {
                refused("share of " + m, ARGUMENT, THREE, x -> x.share(each, m, 2));
                refused("share of " + m + " and no party", ARGUMENT, THREE, x -> x.share(each, m, 3));
            }
            refused("share of no party", ARGUMENT, THREE, x -> x.share(each, 10000, 3));
        }
    }

    private static void allWeightsAre0() {
        sentence("IllegalStateException: all WEIGHTS are 0 (here and below)");
        for (int way = 0; way <= 2; way++) {
            int each = way;
            for (int n : new int[] {1, 2, 8}) {
                int last = n - 1;
                int[] none = new int[n];
                for (int m : new int[] {0, 1, 9999}) {
                    refused("share", STATE, none, x -> x.share(each, m, last));
                    refused("over", STATE, none, x -> x.over(each, m, last));
                    refused("next", STATE, none, x -> x.next(each, m));
                    refused("least", STATE, none, x -> x.least(each, m, last));
                }
                refused("share of 10000", STATE, none, x -> x.share(each, 10000, last));
                refused("over of 10000", STATE, none, x -> x.over(each, 10000, last));
                refused("least of 10001", STATE, none, x -> x.least(each, 10001, last));
                oneWeightIsEnough(each, n);
            }
        }
    }

    private static void oneWeightIsEnough(int way, int n) {
        ShareDesk desk = desk(new int[n]);
        int last = n - 1;
        desk.weight(last, 1);
        due("share with one weight", 10000, () -> desk.share(way, 10000, last));
        due("over with one weight", 0, () -> desk.over(way, 10000, last));
        due("next with one weight", last, () -> desk.next(way, 9999));
        due("least with one weight", 10000, () -> desk.least(way, 10000, last));
        desk.weight(last, 0);
        due("share when it is gone", STATE, () -> desk.share(way, 0, last));
        due("over when it is gone", STATE, () -> desk.over(way, 0, last));
        due("next when it is gone", STATE, () -> desk.next(way, 0));
        due("least when it is gone", STATE, () -> desk.least(way, 0, last));
        desk.weight(last, 2);
        desk.begin(n);
        due("share after begin", STATE, () -> desk.share(way, 0, last));
    }

    private static void overIsMoreAlikeOrLess() {
        sentence("over: By how much it is more than its PART, times W");
        due("over of a whole part", 0, () -> desk(5, 3, 2).over(0, 10, 1));
        due("over of just more", 1, () -> desk(99999, 1).over(0, 1, 0));
        due("over of just less", -1, () -> desk(99999, 1).over(0, 1, 1));
        due("over of no units", 0, () -> desk(5, 3, 2).over(0, 0, 0));
        int[] oneGreat = {100, 9, 9, 9, 9, 9, 9, 9};
        due("over of nearly four more", 630, () -> desk(oneGreat).over(1, 10, 0));
        due("over of less than one", -90, () -> desk(oneGreat).over(1, 10, 7));
        int[] sevenSmall = {100, 15, 15, 15, 15, 15, 15, 15};
        due("over of nearly two less", -385, () -> desk(sevenSmall).over(2, 10, 0));
        due("over of a little more", 55, () -> desk(sevenSmall).over(2, 10, 7));
        for (int way = 0; way <= 2; way++) {
            int each = way;
            int[] full = {100000, 100000, 100000, 100000, 100000, 100000, 100000, 100000};
            due("over of the most", 0, () -> desk(full).over(each, 10000, 0));
            due("over of one less, the first", 1250 * 800000L - 9999 * 100000L, () -> desk(full).over(each, 9999, 0));
            due("over of one less, the last", 1249 * 800000L - 9999 * 100000L, () -> desk(full).over(each, 9999, 7));
            due("over of the whole", 0, () -> desk(0, 100000).over(each, 10000, 1));
            due("over of nothing", 0, () -> desk(0, 100000).over(each, 10000, 0));
        }
    }

    private static void overOfWrongArguments() {
        sentence("over: IllegalArgumentException as for share");
        for (int way = 0; way <= 2; way++) {
            int each = way;
            for (int m : new int[] {-1, 10001}) {
                refused("over of " + m, ARGUMENT, THREE, x -> x.over(each, m, 0));
            }
            for (int party : new int[] {-1, 3}) {
                refused("over of party " + party, ARGUMENT, THREE, x -> x.over(each, 0, party));
            }
        }
    }

    private static void nextIsOneOrNone() {
        sentence("next: which has one more, if all others have the same");
        due("next(0, 2)", 2, () -> desk(THREE).next(0, 2));
        due("next(0, 9998)", 2, () -> desk(3, 3, 1).next(0, 9998));
        sentence("next: -1 if others have more or less, too");
        due("next(0, 3)", -1, () -> desk(THREE).next(0, 3));
        shares(desk(THREE), 0, 3, 1, 1, 1);
        shares(desk(THREE), 0, 4, 2, 2, 0);
        due("next(0, 10)", -1, () -> desk(THREE).next(0, 10));
        due("next(0, 9999)", -1, () -> desk(3, 3, 1).next(0, 9999));
        shares(desk(3, 3, 1), 0, 9999, 4285, 4285, 1429);
        shares(desk(3, 3, 1), 0, 10000, 4286, 4286, 1428);
        due("next(1, 9999)", 1, () -> desk(3, 3, 1).next(1, 9999));
        due("next of the first for one", 0, () -> desk(1).next(2, 0));
    }

    private static void nextOf10000() {
        sentence("next: IllegalArgumentException: m is 10000, too");
        for (int way = 0; way <= 2; way++) {
            int each = way;
            due("next(" + way + ", 0)", 0, () -> desk(1, 1).next(each, 0));
            due("next(" + way + ", 9999)", 1, () -> desk(1, 1).next(each, 9999));
            for (int m : new int[] {-1, 10000, 10001, Integer.MIN_VALUE, Integer.MAX_VALUE}) {
                refused("next(" + way + ", " + m + ")", ARGUMENT, THREE, x -> x.next(each, m));
            }
        }
    }

    private static void leastIsTheFirst() {
        sentence("least: the least m of which a PARTY gets k at least");
        due("least(0, 1, 2), lost again of 4", 3, () -> desk(THREE).least(0, 1, 2));
        due("share(0, 2, 2)", 0, () -> desk(THREE).share(0, 2, 2));
        due("share(0, 4, 2)", 0, () -> desk(THREE).share(0, 4, 2));
        due("least(0, 1429, 2), lost again of 10000", 9999, () -> desk(3, 3, 1).least(0, 1429, 2));
        due("least(0, 1430, 2)", -1, () -> desk(3, 3, 1).least(0, 1430, 2));
        for (int way = 0; way <= 2; way++) {
            int each = way;
            due("least of 0 for a weight", 0, () -> desk(1, 9).least(each, 0, 0));
            due("least of 0 for no weight", 0, () -> desk(0, 9).least(each, 0, 0));
            due("least of 1 for the first", 1, () -> desk(1, 1).least(each, 1, 0));
            due("least of 1 for the second", 2, () -> desk(1, 1).least(each, 1, 1));
        }
    }

    /** The same two weights either way round: the one of weight 5 is served by unit 10000, or just not. */
    private static void leastUpTo10000() {
        sentence("least: -1: there is none up to 10000");
        due("least(0, 1, 0)", 10000, () -> desk(5, 99995).least(0, 1, 0));
        due("least(0, 1, 1)", -1, () -> desk(99995, 5).least(0, 1, 1));
        due("least(1, 1, 0)", 10000, () -> desk(10, 100000).least(1, 1, 0));
        due("least(1, 1, 1)", -1, () -> desk(100000, 10).least(1, 1, 1));
        due("least(2, 1, 0)", 10000, () -> desk(5, 99995).least(2, 1, 0));
        due("least(2, 1, 1)", -1, () -> desk(99995, 5).least(2, 1, 1));
        for (int way = 0; way <= 2; way++) {
            int each = way;
            due("least of 10000 alone", 10000, () -> desk(0, 1).least(each, 10000, 1));
            due("least of 10001 alone", -1, () -> desk(0, 1).least(each, 10001, 1));
            due("least of the greatest k", -1, () -> desk(0, 1).least(each, Integer.MAX_VALUE, 1));
            due("least of 10000 beside the least", 10000, () -> desk(100000, 1).least(each, 10000, 0));
            due("least of 5000 of two alike", 10000, () -> desk(7, 7).least(each, 5000, 1));
            due("least of 5001 of two alike", -1, () -> desk(7, 7).least(each, 5001, 0));
            due("least of 1 for no weight", -1, () -> desk(0, 1).least(each, 1, 0));
            // Here (k - 1) * W and what ways 1 and 2 multiply out are the greatest.
            int[] oneSmall = {100000, 100000, 100000, 100000, 100000, 100000, 100000, 1};
            due("least of 10000 for the least weight", -1, () -> desk(oneSmall).least(each, 10000, 7));
            due("least of 10000 beside the least weight", -1, () -> desk(oneSmall).least(each, 10000, 0));
        }
    }

    private static void leastOfLessThan0() {
        sentence("least: IllegalArgumentException: k is below 0, too");
        for (int way = 0; way <= 2; way++) {
            int each = way;
            due("least of 0", 0, () -> desk(THREE).least(each, 0, 2));
            for (int k : new int[] {-1, -2, Integer.MIN_VALUE}) {
                refused("least of " + k, ARGUMENT, THREE, x -> x.least(each, k, 2));
                refused("least of " + k + " for no weight", ARGUMENT, new int[] {1, 0}, x -> x.least(each, k, 1));
            }
            for (int party : new int[] {-1, 3}) {
                refused("least of 0, party " + party, ARGUMENT, THREE, x -> x.least(each, 0, party));
                refused("least of 10001, party " + party, ARGUMENT, THREE, x -> x.least(each, 10001, party));
            }
        }
    }

    private static void countOf0To2() {
        sentence("What 0: PARTIES; 1: W; 2: how many have a WEIGHT that is not 0");
        counts("one without weight", desk(0), 1, 0, 0);
        counts("one of weight 1", desk(1), 1, 1, 1);
        counts("eight without weight", desk(0, 0, 0, 0, 0, 0, 0, 0), 8, 0, 0);
        counts("the first and the last", desk(1, 0, 0, 0, 0, 0, 0, 100000), 8, 100001, 2);
        counts("all but one", desk(1, 1, 1, 0, 1, 1, 1, 1), 8, 7, 7);
        ShareDesk fewer = desk(1, 1, 1, 1, 1, 1, 1, 1);
        fewer.begin(7);
        counts("after begin", fewer, 7, 0, 0);
    }

    private static void countOfOthers() {
        sentence("count: IllegalArgumentException for others");
        for (int what : new int[] {-1, 3, 4, Integer.MIN_VALUE, Integer.MAX_VALUE}) {
            refused("count(" + what + ")", ARGUMENT, THREE, x -> x.count(what));
            refused("count(" + what + ") without weights", ARGUMENT, NONE, x -> x.count(what));
        }
    }

    public static void main(String[] args) {
        newObjectHasTwoParties();
        newObjectHasNoWeights();
        beginMakesWeights0();
        beginFrom1To8();
        weightAnswersWhatItWas();
        weightOfNoSuchParty();
        shareOfNoSuchWay();
        shareOfTooFewOrTooManyUnits();
        allWeightsAre0();
        overIsMoreAlikeOrLess();
        overOfWrongArguments();
        nextIsOneOrNone();
        nextOf10000();
        leastIsTheFirst();
        leastUpTo10000();
        leastOfLessThan0();
        countOf0To2();
        countOfOthers();
        end();
    }
}
