/** Promise 3: which tracks come, their numbers, and that the text has no keys behind it. */
public final class Promise3TrackTest {
    private static final int NONE = MotionDesk.NONE;
    private static final Answers ANSWERS = new Answers();

    public static void main(String[] args) {
        tracksAreNumberedFromZero();
        wrongNodesWhatsAndHowsAreRefused();
        aTextWithoutKeysIsRefused();
        numbersMustFitTheWhat();
        thirtyTwoAreAllThatCome();
        aTrackAloneSetsNothing();
        tracksKeepTheirOwnKeys();
        ANSWERS.end();
    }

    private static void tracksAreNumberedFromZero() {
        MotionDesk desk = new MotionDesk(2);
        for (int k = 0; k < 9; k++) {
            desk.key(k, k, k, k);
            ANSWERS.due("track " + k, desk.track(k % 2, k / 3, k % 3), k);
            ANSWERS.due("count(4)", desk.count(4), 0);
            ANSWERS.due("count(1)", desk.count(1), k + 1);
        }
    }

    private static void wrongNodesWhatsAndHowsAreRefused() {
        int[][] wrong = {
            {-1, 0, 0}, {3, 0, 0}, {48, 0, 0}, {Integer.MAX_VALUE, 0, 0}, {Integer.MIN_VALUE, 0, 0},
            {0, -1, 0}, {0, 3, 0}, {0, Integer.MAX_VALUE, 0}, {0, Integer.MIN_VALUE, 0},
            {0, 0, -1}, {0, 0, 3}, {0, 0, Integer.MAX_VALUE}, {0, 0, Integer.MIN_VALUE},
        };
        MotionDesk desk = new MotionDesk(3);
        for (int[] w : wrong) {
            desk.key(1, 1, 1, 1);
            desk.key(2, 1, 1, 1);
            String call = "track(" + w[0] + ", " + w[1] + ", " + w[2] + ")";
            ANSWERS.due(call, desk.track(w[0], w[1], w[2]), NONE);
            ANSWERS.due("count(4) behind " + call, desk.count(4), 0);
            ANSWERS.due("count(1) behind " + call, desk.count(1), 0);
            ANSWERS.due("count(2) behind " + call, desk.count(2), 0);
        }
        desk.key(0, 1, 1, 1);
        ANSWERS.due("track(2, 2, 2)", desk.track(2, 2, 2), 0);
    }

    private static void aTextWithoutKeysIsRefused() {
        MotionDesk desk = new MotionDesk(1);
        ANSWERS.due("no keys yet", desk.track(0, 0, 0), NONE);
        desk.key(0, 1, 1, 1);
        ANSWERS.due("one key", desk.track(0, 0, 0), 0);
        ANSWERS.due("no keys any more", desk.track(0, 0, 0), NONE);
        ANSWERS.due("count(1)", desk.count(1), 1);
    }

    private static void numbersMustFitTheWhat() {
        int[] edges = {1048576, -1048576, 1048577, -1048577, 4194304, -4194304};
        for (int what = 0; what < 3; what++) {
            for (int e = 0; e < edges.length; e++) {
                boolean fits = what == 0 || e < 2;
                for (int axis = 0; axis < 3; axis++) {
                    for (int at = 0; at < 3; at++) {
                        numberAtAKey(what, edges[e], axis, at, fits);
                    }
                }
            }
        }
    }

    /** A text of three keys, all 0 but for one number of the key at place 'at'. */
    private static void numberAtAKey(int what, int number, int axis, int at, boolean fits) {
        MotionDesk desk = new MotionDesk(1);
        for (int k = 0; k < 3; k++) {
            int n = k == at ? number : 0;
            desk.key(k, axis == 0 ? n : 0, axis == 1 ? n : 0, axis == 2 ? n : 0);
        }
        String call = "what " + what + ", " + number + " on axis " + axis + " of key " + at;
        ANSWERS.due(call, desk.track(0, what, 1), fits ? 0 : NONE);
        ANSWERS.due(call + ": count(4)", desk.count(4), 0);
        ANSWERS.due(call + ": count(1)", desk.count(1), fits ? 1 : 0);
    }

    private static void thirtyTwoAreAllThatCome() {
        MotionDesk desk = new MotionDesk(1);
        for (int k = 0; k < 32; k++) {
            desk.key(0, k, k, k);
            ANSWERS.due("track " + k, desk.track(0, 0, 0), k);
        }
        desk.key(0, 99, 99, 99);
        ANSWERS.due("track 32", desk.track(0, 0, 0), NONE);
        ANSWERS.due("count(4)", desk.count(4), 0);
        ANSWERS.due("count(1)", desk.count(1), 32);
        desk.time(0);
        ANSWERS.dueThree("the last track's", desk, 0, 0, 31, 31, 31);
    }

    private static void aTrackAloneSetsNothing() {
        MotionDesk desk = new MotionDesk(1);
        desk.key(0, 5, 6, 7);
        desk.track(0, 2, 0);
        ANSWERS.dueThree("before any time", desk, 0, 2, 65536, 65536, 65536);
        desk.time(0);
        ANSWERS.dueThree("with the time", desk, 0, 2, 5, 6, 7);
    }

    private static void tracksKeepTheirOwnKeys() {
        MotionDesk desk = new MotionDesk(2);
        desk.key(0, 1, 2, 3);
        desk.key(10, 4, 5, 6);
        desk.track(0, 0, 0);
        desk.key(0, 11, 12, 13);
        desk.key(5, 14, 15, 16);
        desk.key(8, 17, 18, 19);
        desk.track(1, 0, 0);
        desk.key(3, 99, 99, 99);
        desk.time(9);
        ANSWERS.dueThree("the first track's", desk, 0, 0, 1, 2, 3);
        ANSWERS.dueThree("the second track's", desk, 1, 0, 17, 18, 19);
    }
}
