/** Promise 5: which times there are, and that a refused one changes nothing. What tracks set is in TermsTest. */
public final class Promise5TimeTest {
    private static final Answers ANSWERS = new Answers();

    public static void main(String[] args) {
        theTimeIsT();
        tracksSetWhatTheyAreFor();
        firstAndLastTime();
        timesOutside();
        ANSWERS.end();
    }

    private static void theTimeIsT() {
        ANSWERS.says("TIME is t, and the tracks set what they are for: true");
        Desk desk = new Desk(1);
        int[] times = {77, 78, 5, 5, 123456};
        for (int t : times) {
            ANSWERS.due(desk, desk.time(t), true);
            ANSWERS.due(desk, desk.count(3), t);
        }
    }

    private static void tracksSetWhatTheyAreFor() {
        ANSWERS.says("TIME is t, and the tracks set what they are for: true");
        Desk desk = new Desk(3);
        for (int k = 0; k < 9; k++) {
            desk.key(10, 3 * k + 1, 3 * k + 2, 3 * k + 3);
            desk.track(k / 3, k % 3, k % 2);
        }
        desk.time(10);
        for (int k = 0; k < 9; k++) {
            ANSWERS.dueThree(desk, k / 3, k % 3, 3 * k + 1, 3 * k + 2, 3 * k + 3);
        }
    }

    private static void firstAndLastTime() {
        ANSWERS.says("false, and nothing happens, if t is not 0 .. 1000000");
        int[] good = {0, 1, 999999, 1000000};
        for (int t : good) {
            Desk desk = new Desk(1);
            desk.time(500);
            desk.key(t, 7, 8, 9);
            desk.track(0, 0, 0);
            ANSWERS.due(desk, desk.time(t), true);
            ANSWERS.due(desk, desk.count(3), t);
            ANSWERS.dueThree(desk, 0, 0, 7, 8, 9);
        }
    }

    private static void timesOutside() {
        ANSWERS.says("false, and nothing happens, if t is not 0 .. 1000000");
        int[] wrong = {-1, -2, Integer.MIN_VALUE + 1, Integer.MIN_VALUE,
            1000001, 1000002, Integer.MAX_VALUE - 1, Integer.MAX_VALUE};
        for (int t : wrong) {
            Scene.WITH_TEXT.isKeptBy(ANSWERS, desk -> desk.time(t) ? 1 : 0, 0);
            Scene.WITH_ALL_TRACKS.isKeptBy(ANSWERS, desk -> desk.time(t) ? 1 : 0, 0);
        }
    }
}
