/** The boundary cases of the sections 'What it is' and 'Terms', sentence by sentence, on both sides of each. */
public final class TermsBoundariesTest extends DeskTest {
    private static final int CALLS_OF_AN_OBJECT = 512;
    private static final int[] ORDINARY = {53, 24, 23};
    private static final int[] NONE = {0, 0, 0};

    /** An object with the weights 53, 24, 23 that has been called just so often, refused calls among them. */
    private static ShareDesk calledBefore(int calls) {
        ShareDesk desk = desk(ORDINARY);
        for (int call = 1 + ORDINARY.length; call < calls; call++) {
            switch (call % 4) {
                case 0 -> due("share in call " + (call + 1), 5300, () -> desk.share(0, 10000, 0));
                case 1 -> due("count in call " + (call + 1), 100, () -> desk.count(1));
                case 2 -> due("wrong share in call " + (call + 1), ARGUMENT, () -> desk.share(3, 10000, 0));
                default -> due("weight in call " + (call + 1), 23, () -> desk.weight(2, 23));
            }
        }
        return desk;
    }

    private static void the512thCallIsAnswered() {
        sentence("An object is used for at most 512 calls");
        int before = CALLS_OF_AN_OBJECT - 1;
        due("begin", 0, () -> begin(calledBefore(before), 8));
        due("begin(9)", ARGUMENT, () -> begin(calledBefore(before), 9));
        due("weight", 24, () -> calledBefore(before).weight(1, 100000));
        due("weight of none", ARGUMENT, () -> calledBefore(before).weight(3, 1));
        due("share", 3, () -> calledBefore(before).share(2, 7, 0));
        due("over", 29, () -> calledBefore(before).over(0, 7, 0));
        due("next", 2, () -> calledBefore(before).next(1, 7));
        due("least", 7, () -> calledBefore(before).least(1, 2, 1));
        due("count", 3, () -> calledBefore(before).count(2));
        ShareDesk changed = calledBefore(before - 1);
        due("weight in call 511", 24, () -> changed.weight(1, 99));
        due("weight in call 512", 99, () -> changed.weight(1, 0));
        ShareDesk begun = calledBefore(before - 1);
        begun.begin(8);
        due("count in call 512", 8, () -> begun.count(0));
    }

    /** What they answer is free, but no other exception than the document's ever reaches a caller. */
    private static void laterCallsEnd() {
        sentence("what later calls answer is free");
        ShareDesk desk = calledBefore(CALLS_OF_AN_OBJECT);
        for (int call = 0; call < 3 * CALLS_OF_AN_OBJECT; call++) {
            int m = call;
            String got = outcome(() -> desk.share(m % 3, m, m % 3) + desk.next(m % 3, m) + desk.least(m % 3, m, 0));
            boolean allowed = got.equals(ARGUMENT) || got.equals(STATE) || !got.endsWith("Exception");
            due("a later call lets " + got + " out", 1, () -> allowed ? 1 : 0);
        }
        holds("another object afterwards", desk(ORDINARY), ORDINARY);
    }

    private static int[] weightsUpFrom(int first, int parties) {
        int[] weights = new int[parties];
        for (int i = 0; i < parties; i++) {
            weights[i] = first + i;
        }
        return weights;
    }

    private static void partiesFrom0ToLast() {
        sentence("PARTIES 0..n - 1 (1 to 8)");
        for (int n = 1; n <= 8; n++) {
            int[] weights = weightsUpFrom(5, n);
            for (int party : new int[] {0, n - 1}) {
                String of = "party " + party + " of " + n;
                due("weight, " + of, weights[party], () -> desk(weights).weight(party, 1));
                due("share, " + of, 0, () -> desk(weights).share(0, 0, party));
                due("over, " + of, 0, () -> desk(weights).over(1, 0, party));
                due("least, " + of, 0, () -> desk(weights).least(2, 0, party));
            }
            for (int party : new int[] {-1, n, 8, 9, Integer.MIN_VALUE, Integer.MAX_VALUE}) {
                String of = "party " + party + " of " + n;
                refused("weight, " + of, ARGUMENT, weights, x -> x.weight(party, 1));
                refused("share, " + of, ARGUMENT, weights, x -> x.share(0, 1, party));
                refused("over, " + of, ARGUMENT, weights, x -> x.over(1, 1, party));
                refused("least, " + of, ARGUMENT, weights, x -> x.least(2, 1, party));
            }
        }
    }

    private static void weightsFrom0To100000() {
        sentence("WEIGHTS, 0 to 100000");
        for (int w : new int[] {0, 1, 99999, 100000}) {
            ShareDesk desk = desk(8, 9);
            due("weight(1, " + w + ")", 9, () -> desk.weight(1, w));
            holds("after weight(1, " + w + ")", desk, 8, w);
        }
        for (int w : new int[] {-1, 100001, Integer.MIN_VALUE, Integer.MAX_VALUE}) {
            refused("weight(1, " + w + ")", ARGUMENT, new int[] {8, 9}, x -> x.weight(1, w));
            refused("weight(1, " + w + ")", ARGUMENT, new int[] {0, 0}, x -> x.weight(1, w));
        }
    }

    private static void sumOfWeights() {
        sentence("W is their sum");
        counts("none", desk(0, 0, 0, 0, 0, 0, 0, 0), 8, 0, 0);
        counts("the least", desk(0, 0, 0, 0, 0, 0, 0, 1), 8, 1, 1);
        ShareDesk full = desk(100000, 100000, 100000, 100000, 100000, 100000, 100000, 100000);
        counts("the greatest", full, 8, 800000, 8);
        due("weight down to 0", 100000, () -> full.weight(7, 0));
        counts("one less", full, 8, 700000, 7);
        for (int way = 0; way <= 2; way++) {
            shares(desk(100000, 100000, 100000, 100000, 100000, 100000, 100000, 100000), way, 10000,
                    1250, 1250, 1250, 1250, 1250, 1250, 1250, 1250);
        }
    }

    private static void unitsFrom0To10000() {
        sentence("Of m units (0 to 10000)");
        for (int way = 0; way <= 2; way++) {
            int each = way;
            shares(desk(ORDINARY), way, 0, 0, 0, 0);
            shares(desk(ORDINARY), way, 1, 1, 0, 0);
            shares(desk(ORDINARY), way, 10000, 5300, 2400, 2300);
            due("next of 0", 0, () -> desk(ORDINARY).next(each, 0));
            due("next of 9999", 1, () -> desk(1, 1).next(each, 9999));
            for (int m : new int[] {-1, 10001, Integer.MIN_VALUE, Integer.MAX_VALUE}) {
                String of = "(" + way + ", " + m + ")";
                refused("share" + of, ARGUMENT, ORDINARY, x -> x.share(each, m, 0));
                refused("over" + of, ARGUMENT, ORDINARY, x -> x.over(each, m, 0));
                refused("next" + of, ARGUMENT, ORDINARY, x -> x.next(each, m));
            }
        }
    }

    private static void partIsRoundedDown() {
        sentence("WAY 0: its PART m * w / W, rounded down");
        shares(desk(5, 3, 2), 0, 10, 5, 3, 2);
        shares(desk(5, 3, 2), 0, 9, 4, 3, 2);
        shares(desk(5, 3, 2), 0, 11, 6, 3, 2);
        // Parts of a half and of five eighths, which are not rounded up.
        shares(desk(1, 1, 1, 1, 1, 1, 1, 1), 0, 4, 1, 1, 1, 1, 0, 0, 0, 0);
        shares(desk(1, 1, 1, 1, 1, 1, 1, 1), 0, 5, 1, 1, 1, 1, 1, 0, 0, 0);
        // Two parts just below 5000, and one of 0.05 that gets none of the two units left.
        shares(desk(100000, 100000, 1), 0, 10000, 5000, 5000, 0);
        shares(desk(100000), 0, 10000, 10000);
    }

    private static void leftOnesGoOneEach() {
        sentence("those that are left go to PARTIES with the greatest rests, one each");
        int[] sevenGreat = {9, 9, 9, 9, 9, 9, 9, 1};
        shares(desk(sevenGreat), 0, 7, 1, 1, 1, 1, 1, 1, 1, 0);
        shares(desk(sevenGreat), 0, 8, 2, 1, 1, 1, 1, 1, 1, 0);
        shares(desk(1, 1, 1, 1, 1, 1, 1, 1), 0, 7, 1, 1, 1, 1, 1, 1, 1, 0);
        shares(desk(1, 1, 1, 1, 1, 1, 1, 1), 0, 8, 1, 1, 1, 1, 1, 1, 1, 1);
        shares(desk(1, 1, 1, 1, 1, 1, 1, 1), 0, 9, 2, 1, 1, 1, 1, 1, 1, 1);
        sentence("(what m * w leaves over when it is divided by W)");
        // The parts 1.5 and 0.5 leave 2 over alike; a weight greater by 1 leaves just more or just less.
        shares(desk(1, 3), 0, 2, 1, 1);
        shares(desk(3, 1), 0, 2, 2, 0);
        shares(desk(50000, 50001), 0, 1, 0, 1);
        shares(desk(50001, 50000), 0, 1, 1, 0);
        shares(desk(24999, 75000), 0, 2, 0, 2);
        shares(desk(25001, 75000), 0, 2, 1, 1);
        shares(desk(75000, 25001), 0, 2, 1, 1);
    }

    private static void greatestBidIsNext() {
        sentence("WAY 1: one by one: the next one to that for which w / (s + 1) is the greatest");
        shares(desk(50000, 100000), 1, 1, 0, 1);
        shares(desk(50000, 100000), 1, 2, 1, 1);
        // 49999 is less than 99999 / 2, but not when that is rounded down.
        shares(desk(49999, 99999), 1, 2, 0, 2);
        shares(desk(50000, 99999), 1, 2, 1, 1);
        shares(desk(100000, 50000), 1, 2, 2, 0);
        shares(desk(99999, 50000), 1, 2, 1, 1);
        sentence("WAY 2: likewise w / (2 s + 1)");
        shares(desk(33333, 99999), 2, 1, 0, 1);
        shares(desk(33333, 99999), 2, 2, 1, 1);
        // 33333 is less than 100000 / 3, but not when that is rounded down.
        shares(desk(33333, 100000), 2, 2, 0, 2);
        shares(desk(33334, 100000), 2, 2, 1, 1);
        shares(desk(99999, 33333), 2, 2, 2, 0);
        shares(desk(99998, 33333), 2, 2, 1, 1);
    }

    private static void ofSeveralAlikeTheLeastNumber() {
        sentence("Of several alike it is always the one of the least number");
        for (int w : new int[] {1, 100000}) {
            for (int way = 0; way <= 2; way++) {
                int each = way;
                for (int m = 0; m < 20; m++) {
                    int units = m;
                    String call = "(" + way + ", " + m + ") of eight of " + w;
                    due("next" + call, m % 8, () -> desk(w, w, w, w, w, w, w, w).next(each, units));
                    due("next passing weight 0" + call, new int[] {1, 3, 4}[m % 3],
                            () -> desk(0, w, 0, w, w).next(each, units));
                }
                shares(desk(w, w, w, w, w, w, w, w), way, 9999, 1250, 1250, 1250, 1250, 1250, 1250, 1250, 1249);
                shares(desk(w, w), way, 9999, 5000, 4999);
                due("least of the first", 9999, () -> desk(w, w).least(each, 5000, 0));
                due("least of the second", 10000, () -> desk(w, w).least(each, 5000, 1));
            }
        }
        // Alike only for the first two: the third is greater, or less, by one.
        for (int way = 0; way <= 2; way++) {
            shares(desk(99999, 99999, 100000), way, 1, 0, 0, 1);
            shares(desk(99999, 99999, 100000), way, 2, 1, 0, 1);
            shares(desk(100000, 100000, 99999), way, 2, 1, 1, 0);
        }
    }

    private static void weight0GetsNothing() {
        sentence("(A PARTY of WEIGHT 0 gets nothing.)");
        for (int place = 0; place < 8; place++) {
            int party = place;
            int[] without = {1, 1, 1, 1, 1, 1, 1, 1};
            without[place] = 0;
            for (int way = 0; way <= 2; way++) {
                int each = way;
                for (int m : new int[] {0, 1, 6, 7, 9999, 10000}) {
                    String call = "(" + way + ", " + m + ", " + place + ")";
                    due("share" + call, 0, () -> desk(without).share(each, m, party));
                    due("over" + call, 0, () -> desk(without).over(each, m, party));
                }
                due("least of 0", 0, () -> desk(without).least(each, 0, party));
                due("least of 1", -1, () -> desk(without).least(each, 1, party));
                due("next", place == 0 ? 1 : 0, () -> desk(without).next(each, 0));
            }
        }
        sentence("a PARTY whose WEIGHT is not 0 any more, or 0 again");
        for (int way = 0; way <= 2; way++) {
            ShareDesk desk = desk(1, 0);
            shares(desk, way, 10000, 10000, 0);
            desk.weight(1, 1);
            shares(desk, way, 10000, 5000, 5000);
            desk.weight(0, 0);
            shares(desk, way, 10000, 0, 10000);
        }
    }

    private static void firstExceptionOfTheHeading() {
        sentence("Of several exceptions the one is thrown that the heading of the call names first");
        for (int way = 0; way <= 2; way++) {
            int each = way;
            refused("share, all weights 0", STATE, NONE, x -> x.share(each, 10000, 2));
            refused("share, m 10001 too", ARGUMENT, NONE, x -> x.share(each, 10001, 2));
            refused("share, party 3 too", ARGUMENT, NONE, x -> x.share(each, 10000, 3));
            refused("over, all weights 0", STATE, NONE, x -> x.over(each, 0, 0));
            refused("over, m -1 too", ARGUMENT, NONE, x -> x.over(each, -1, 0));
            refused("over, party -1 too", ARGUMENT, NONE, x -> x.over(each, 0, -1));
            refused("next, all weights 0", STATE, NONE, x -> x.next(each, 9999));
            refused("next, m 10000 too", ARGUMENT, NONE, x -> x.next(each, 10000));
            refused("next, m -1 too", ARGUMENT, NONE, x -> x.next(each, -1));
            refused("least, all weights 0", STATE, NONE, x -> x.least(each, 0, 0));
            refused("least, k -1 too", ARGUMENT, NONE, x -> x.least(each, -1, 0));
            refused("least, party 3 too", ARGUMENT, NONE, x -> x.least(each, 0, 3));
        }
        for (int way : new int[] {-1, 3}) {
            refused("share, no way too", ARGUMENT, NONE, x -> x.share(way, 0, 0));
            refused("over, no way too", ARGUMENT, NONE, x -> x.over(way, 0, 0));
            refused("next, no way too", ARGUMENT, NONE, x -> x.next(way, 0));
            refused("least, no way too", ARGUMENT, NONE, x -> x.least(way, 0, 0));
        }
    }

    private static long allWrongCalls(ShareDesk desk) {
        DeskCall[] calls = {
            x -> begin(x, 0), x -> begin(x, 9), x -> x.weight(3, 7), x -> x.weight(0, -1), x -> x.weight(0, 100001),
            x -> x.share(3, 1, 0), x -> x.share(0, 10001, 0), x -> x.share(0, 1, 3), x -> x.over(-1, 1, 0),
            x -> x.over(1, -1, 0), x -> x.over(1, 1, -1), x -> x.next(3, 1), x -> x.next(0, 10000),
            x -> x.least(3, 1, 0), x -> x.least(2, -1, 0), x -> x.least(2, 1, 3), x -> x.count(3),
        };
        long thrown = 0;
        for (DeskCall call : calls) {
            thrown += outcome(() -> call.on(desk)).equals(ARGUMENT) ? 1 : 0;
        }
        return thrown;
    }

    private static void whatThrowsChangesNothing() {
        sentence("what throws changes nothing");
        ShareDesk weighted = desk(ORDINARY);
        due("wrong calls in a row", 17, () -> allWrongCalls(weighted));
        holds("after wrong calls in a row", weighted, ORDINARY);
        ShareDesk none = desk(NONE);
        due("wrong calls in a row without weights", 17, () -> allWrongCalls(none));
        due("share without weights", STATE, () -> none.share(1, 5, 0));
        due("over without weights", STATE, () -> none.over(1, 5, 0));
        due("next without weights", STATE, () -> none.next(1, 5));
        due("least without weights", STATE, () -> none.least(1, 5, 0));
        holds("after wrong calls in a row without weights", none, NONE);
        due("the first weight afterwards", 0, () -> none.weight(2, 6));
        holds("after the first weight", none, 0, 0, 6);
    }

    public static void main(String[] args) {
        the512thCallIsAnswered();
        laterCallsEnd();
        partiesFrom0ToLast();
        weightsFrom0To100000();
        sumOfWeights();
        unitsFrom0To10000();
        partIsRoundedDown();
        leftOnesGoOneEach();
        greatestBidIsNext();
        ofSeveralAlikeTheLeastNumber();
        weight0GetsNothing();
        firstExceptionOfTheHeading();
        whatThrowsChangesNothing();
        end();
    }
}
