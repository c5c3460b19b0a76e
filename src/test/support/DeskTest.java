/** What tests have in common: calls with the answer that is due, and a count of those that are wrong. */
abstract class DeskTest {
    static final String ARGUMENT = "IllegalArgumentException";
    static final String STATE = "IllegalStateException";

    private static final int MOST_PRINTED = 1000;

    private static String sentence = "";
    private static int wrong = 0;

    interface Call {
        long answer();
    }

    interface DeskCall {
        long on(ShareDesk desk);
    }

    /** Names the words of the document that the checks behind this call hold the class to. */
    static void sentence(String words) {
        sentence = words + ": ";
    }

    static String outcome(Call call) {
        try {
            return Long.toString(call.answer());
        } catch (RuntimeException e) {
            return e.getClass().getSimpleName();
        }
    }

    static void same(String what, String want, String got) {
        if (!got.equals(want)) {
            wrong++;
            // A broken class can be wrong a million times in a test that asks much.
            if (wrong <= MOST_PRINTED) {
                System.out.println(sentence + what + " answered " + got + ", due is " + want);
            }
        }
    }

    static void due(String what, String want, Call call) {
        same(what, want, outcome(call));
    }

    static void due(String what, long want, Call call) {
        due(what, Long.toString(want), call);
    }

    static ShareDesk desk(int... weights) {
        ShareDesk desk = new ShareDesk();
        desk.begin(weights.length);
        for (int i = 0; i < weights.length; i++) {
            desk.weight(i, weights[i]);
        }
        return desk;
    }

    /** The one call without an answer, as a call that answers 0. */
    static long begin(ShareDesk desk, int n) {
        desk.begin(n);
        return 0;
    }

    static void counts(String when, ShareDesk desk, int parties, int total, int weighted) {
        due(when + ": count(0)", parties, () -> desk.count(0));
        due(when + ": count(1)", total, () -> desk.count(1));
        due(when + ": count(2)", weighted, () -> desk.count(2));
    }

    static void shares(ShareDesk desk, int way, int m, int... want) {
        for (int i = 0; i < want.length; i++) {
            int party = i;
            due("share(" + way + ", " + m + ", " + i + ")", want[i], () -> desk.share(way, m, party));
        }
    }

    /** Each refused call has an object of its own, so that no later call can hide what it has changed. */
    static void refused(String what, String exception, int[] weights, DeskCall call) {
        ShareDesk desk = desk(weights);
        due(what, exception, () -> call.on(desk));
        holds("after " + what, desk, weights);
    }

    /** The object answers all calls as a new one does that was given these weights. */
    static void holds(String when, ShareDesk desk, int... weights) {
        ShareDesk like = desk(weights);
        for (int what = 0; what <= 2; what++) {
            int each = what;
            alike(when + ": count(" + what + ")", desk, like, x -> x.count(each));
        }
        for (int way = 0; way <= 2; way++) {
            int each = way;
            for (int i = 0; i < weights.length; i++) {
                int party = i;
                alike(when + ": share(" + way + ", 9999, " + i + ")", desk, like, x -> x.share(each, 9999, party));
                alike(when + ": over(" + way + ", 10, " + i + ")", desk, like, x -> x.over(each, 10, party));
                alike(when + ": least(" + way + ", 3, " + i + ")", desk, like, x -> x.least(each, 3, party));
            }
            alike(when + ": next(" + way + ", 10)", desk, like, x -> x.next(each, 10));
        }
        for (int i = 0; i < weights.length; i++) {
            int party = i;
            due(when + ": weight of " + i, weights[i], () -> desk.weight(party, weights[party]));
        }
        due(when + ": weight beyond", ARGUMENT, () -> desk.weight(weights.length, 1));
    }

    private static void alike(String what, ShareDesk desk, ShareDesk like, DeskCall call) {
        due(what, outcome(() -> call.on(like)), () -> call.on(desk));
    }

    static void end() {
        System.out.println(wrong == 0 ? "all answers are as due" : wrong + " answers are not as due");
        if (wrong != 0) {
            System.exit(1);
        }
    }
}
