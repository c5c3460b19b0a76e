/** Each promise of the document with answers worked out by hand: ordinary inputs, edges, wrong inputs. */
public final class PromisesTest extends DeskTest {
    private static final int[] WRONG_WAYS = {-1, 3, Integer.MIN_VALUE, Integer.MAX_VALUE};
    private static final int[] WRONG_UNITS = {-1, 10001, Integer.MIN_VALUE, Integer.MAX_VALUE};

    private static void newObject() {
        ShareDesk desk = new ShareDesk();
        counts("new", desk, 2, 0, 0);
        due("new: weight(0, 0)", 0, () -> desk.weight(0, 0));
        due("new: weight(1, 0)", 0, () -> desk.weight(1, 0));
        due("new: weight(2, 0)", ARGUMENT, () -> desk.weight(2, 0));
        due("new: share", STATE, () -> desk.share(0, 0, 1));

        ShareDesk one = new ShareDesk();
        ShareDesk other = new ShareDesk();
        one.weight(0, 9);
        counts("new, with another in use", other, 2, 0, 0);
    }

    private static void beginning() {
        for (int n = 1; n <= 8; n++) {
            int parties = n;
            ShareDesk desk = desk(1, 2, 3, 4, 5, 6, 7, 8);
            due("begin(" + n + ")", 0, () -> begin(desk, parties));
            counts("after begin(" + n + ")", desk, n, 0, 0);
            due("share after begin(" + n + ")", STATE, () -> desk.share(1, 1, 0));
            for (int i = 0; i < n; i++) {
                int party = i;
                due("weight after begin(" + n + ")", 0, () -> desk.weight(party, 0));
            }
            due("weight beyond begin(" + n + ")", ARGUMENT, () -> desk.weight(parties, 0));
        }
        ShareDesk grown = desk(5, 6, 7);
        grown.begin(1);
        grown.begin(3);
        due("weight of a party that was gone", 0, () -> grown.weight(2, 1));
        shares(grown, 0, 4, 0, 0, 4);
    }

    private static void wrongBeginning() {
        ShareDesk desk = desk(3, 0, 4);
        for (int n : new int[] {0, 9, -1, Integer.MIN_VALUE, Integer.MAX_VALUE}) {
            due("begin(" + n + ")", ARGUMENT, () -> begin(desk, n));
        }
        counts("after begins that threw", desk, 3, 7, 2);
        shares(desk, 0, 7, 3, 0, 4);
    }

    private static void weighing() {
        ShareDesk desk = desk(0, 0, 0);
        due("weight(1, 5)", 0, () -> desk.weight(1, 5));
        due("weight(1, 100000)", 5, () -> desk.weight(1, 100000));
        due("weight(1, 7)", 100000, () -> desk.weight(1, 7));
        due("weight(2, 8)", 0, () -> desk.weight(2, 8));
        due("weight(1, 0)", 7, () -> desk.weight(1, 0));
        counts("after weights", desk, 3, 8, 1);
        for (int party : new int[] {-1, 3, 8, Integer.MIN_VALUE, Integer.MAX_VALUE}) {
            due("weight(" + party + ", 1)", ARGUMENT, () -> desk.weight(party, 1));
        }
        for (int w : new int[] {-1, 100001, Integer.MIN_VALUE, Integer.MAX_VALUE}) {
            due("weight(2, " + w + ")", ARGUMENT, () -> desk.weight(2, w));
        }
        counts("after weights that threw", desk, 3, 8, 1);
        due("weight(2, 0)", 8, () -> desk.weight(2, 0));
        due("share when all weights are 0 again", STATE, () -> desk.share(0, 1, 0));
    }

    private static void sharing() {
        ShareDesk desk = desk(53, 24, 23);
        shares(desk, 0, 7, 4, 2, 1);
        shares(desk, 1, 7, 4, 2, 1);
        shares(desk, 2, 7, 3, 2, 2);
        for (int way = 0; way <= 2; way++) {
            shares(desk, way, 0, 0, 0, 0);
            shares(desk(0, 6, 0), way, 10000, 0, 10000, 0);
            shares(desk(4), way, 10000, 10000);
            shares(desk(0, 1, 1, 0, 1), way, 1, 0, 1, 0, 0, 0);
            shares(desk(0, 1, 1, 0, 1), way, 2, 0, 1, 1, 0, 0);
            shares(desk(100000, 100000, 100000, 100000, 100000, 100000, 100000, 100000), way, 9999,
                    1250, 1250, 1250, 1250, 1250, 1250, 1250, 1249);
        }
        ShareDesk paradox = desk(6, 6, 2);
        shares(paradox, 0, 10, 4, 4, 2);
        shares(paradox, 0, 11, 5, 5, 1);
    }

    /** Of bids alike the least number wins (2 / 1 and 4 / 2), but a bid that is just greater wins over it. */
    private static void sharingOfBidsAlike() {
        shares(desk(2, 4), 1, 1, 0, 1);
        shares(desk(2, 4), 1, 2, 1, 1);
        shares(desk(4, 2), 1, 2, 2, 0);
        shares(desk(1, 3), 2, 1, 0, 1);
        shares(desk(1, 3), 2, 2, 1, 1);
        shares(desk(3, 1), 2, 2, 2, 0);
        shares(desk(100000, 99999), 1, 1, 1, 0);
        shares(desk(99999, 100000), 1, 1, 0, 1);
        shares(desk(99999, 100000), 1, 2, 1, 1);
        shares(desk(99999, 50000), 1, 2, 1, 1);
        shares(desk(99999, 50000), 1, 1, 1, 0);
    }

    private static void overing() {
        ShareDesk desk = desk(53, 24, 23);
        due("over(0, 7, 0)", 4 * 100 - 7 * 53, () -> desk.over(0, 7, 0));
        due("over(0, 7, 2)", 100 - 7 * 23, () -> desk.over(0, 7, 2));
        due("over(2, 7, 0)", 3 * 100 - 7 * 53, () -> desk.over(2, 7, 0));
        due("over(2, 7, 2)", 2 * 100 - 7 * 23, () -> desk.over(2, 7, 2));
        due("over(1, 0, 1)", 0, () -> desk.over(1, 0, 1));
        due("over of weight 0", 0, () -> desk(0, 5).over(1, 10000, 0));

        // The one of weight 1 waits until the others' bids are down to 1, far beyond 10000 units.
        ShareDesk far = desk(100000, 100000, 100000, 100000, 100000, 100000, 100000, 1);
        due("over(1, 10000, 7)", -10000, () -> far.over(1, 10000, 7));
        due("over(1, 10000, 0)", 1429L * 700001 - 1000000000L, () -> far.over(1, 10000, 0));
        due("over(0, 10000, 6)", 1428L * 700001 - 1000000000L, () -> far.over(0, 10000, 6));
    }

    private static void nexting() {
        ShareDesk paradox = desk(6, 6, 2);
        due("next(0, 0)", 0, () -> paradox.next(0, 0));
        due("next(0, 1)", 1, () -> paradox.next(0, 1));
        due("next(0, 2)", 2, () -> paradox.next(0, 2));
        due("next(0, 3): the third loses its unit", -1, () -> paradox.next(0, 3));
        due("next(0, 10)", -1, () -> paradox.next(0, 10));
        due("next(1, 6)", 2, () -> paradox.next(1, 6));
        due("next(1, 10)", 1, () -> paradox.next(1, 10));
        due("next(2, 2)", 0, () -> paradox.next(2, 2));
        due("next(2, 4)", 2, () -> paradox.next(2, 4));
        due("next(0, 9999) of one party", 0, () -> desk(1).next(0, 9999));
        due("next(1, 9999)", 1, () -> desk(3, 3).next(1, 9999));
        due("next(2, 9998)", 0, () -> desk(3, 3).next(2, 9998));
        due("next passes weight 0", 1, () -> desk(0, 1, 1).next(2, 0));
        for (int way = 0; way <= 2; way++) {
            int each = way;
            due("next(" + way + ", 10000)", ARGUMENT, () -> paradox.next(each, 10000));
        }
    }

    private static void leasting() {
        ShareDesk paradox = desk(6, 6, 2);
        due("least(0, 1, 2): before it is lost again", 3, () -> paradox.least(0, 1, 2));
        shares(paradox, 0, 4, 2, 2, 0);
        due("least(0, 2, 2)", 10, () -> paradox.least(0, 2, 2));
        due("least(1, 1, 2)", 7, () -> paradox.least(1, 1, 2));
        due("least(2, 1, 2)", 5, () -> paradox.least(2, 1, 2));
        due("least(1, 5000, 0) of two alike", 9999, () -> desk(1, 1).least(1, 5000, 0));
        due("least(1, 5000, 1) of two alike", 10000, () -> desk(1, 1).least(1, 5000, 1));
        due("least(1, 5001, 0) of two alike", -1, () -> desk(1, 1).least(1, 5001, 0));
        due("least(0, 5000, 1) of two alike", 10000, () -> desk(1, 1).least(0, 5000, 1));
        due("least(0, 5001, 0) of two alike", -1, () -> desk(1, 1).least(0, 5001, 0));
        for (int way = 0; way <= 2; way++) {
            int each = way;
            ShareDesk desk = desk(0, 9);
            due("least of k = 0", 0, () -> desk.least(each, 0, 1));
            due("least of k = 0 and weight 0", 0, () -> desk.least(each, 0, 0));
            due("least of weight 0", -1, () -> desk.least(each, 1, 0));
            due("least of k = 10000", 10000, () -> desk.least(each, 10000, 1));
            due("least of k = 10001", -1, () -> desk.least(each, 10001, 1));
            due("least of the greatest k", -1, () -> desk.least(each, Integer.MAX_VALUE, 1));
            due("least of k = -1", ARGUMENT, () -> desk.least(each, -1, 1));
            due("least of the least k", ARGUMENT, () -> desk.least(each, Integer.MIN_VALUE, 1));
            due("least of a party too far", -1,
                    () -> desk(100000, 1).least(each, each == 0 ? 2 : 1, 1));
        }
    }

    private static void counting() {
        counts("with weights", desk(3, 0, 4, 0), 4, 7, 2);
        counts("of the greatest weights",
                desk(100000, 100000, 100000, 100000, 100000, 100000, 100000, 100000), 8, 800000, 8);
        for (int what : new int[] {-1, 3, Integer.MIN_VALUE, Integer.MAX_VALUE}) {
            due("count(" + what + ")", ARGUMENT, () -> desk(1).count(what));
        }
    }

    /** Once with weights and once without: a wrong argument is told before weights that are all 0. */
    private static void wrongArguments(ShareDesk desk) {
        for (int way : WRONG_WAYS) {
            due("share, way " + way, ARGUMENT, () -> desk.share(way, 1, 0));
            due("over, way " + way, ARGUMENT, () -> desk.over(way, 1, 0));
            due("next, way " + way, ARGUMENT, () -> desk.next(way, 1));
            due("least, way " + way, ARGUMENT, () -> desk.least(way, 1, 0));
            due("least of 0, way " + way, ARGUMENT, () -> desk.least(way, 0, 0));
        }
        for (int m : WRONG_UNITS) {
            due("share of " + m, ARGUMENT, () -> desk.share(0, m, 0));
            due("over of " + m, ARGUMENT, () -> desk.over(1, m, 0));
            due("next of " + m, ARGUMENT, () -> desk.next(2, m));
        }
        due("next of 10000", ARGUMENT, () -> desk.next(2, 10000));
        due("least of -1", ARGUMENT, () -> desk.least(2, -1, 0));
        for (int party : new int[] {-1, 3, 8, Integer.MIN_VALUE, Integer.MAX_VALUE}) {
            due("share, party " + party, ARGUMENT, () -> desk.share(1, 1, party));
            due("over, party " + party, ARGUMENT, () -> desk.over(2, 1, party));
            due("least, party " + party, ARGUMENT, () -> desk.least(0, 1, party));
            due("least of 0, party " + party, ARGUMENT, () -> desk.least(0, 0, party));
        }
    }

    private static void allWeightsZero() {
        ShareDesk desk = desk(0, 0, 0);
        for (int way = 0; way <= 2; way++) {
            int each = way;
            for (int m : new int[] {0, 1, 9999}) {
                due("share without weights", STATE, () -> desk.share(each, m, 2));
                due("over without weights", STATE, () -> desk.over(each, m, 2));
                due("next without weights", STATE, () -> desk.next(each, m));
                due("least without weights", STATE, () -> desk.least(each, m, 2));
            }
            due("share of 10000 without weights", STATE, () -> desk.share(each, 10000, 0));
            due("least of 10001 without weights", STATE, () -> desk.least(each, 10001, 0));
        }
    }

    public static void main(String[] args) {
        newObject();
        beginning();
        wrongBeginning();
        weighing();
        sharing();
        sharingOfBidsAlike();
        overing();
        nexting();
        leasting();
        counting();
        ShareDesk weighted = desk(3, 1, 4);
        wrongArguments(weighted);
        counts("after calls that threw", weighted, 3, 8, 3);
        wrongArguments(desk(0, 0, 0));
        allWeightsZero();
        end();
    }
}
