/** Promise 2: which keys come into the text, what is answered, and that a refused one leaves no trace. */
public final class Promise2KeyTest {
    private static final int NONE = MotionDesk.NONE;
    private static final int LEAST = Integer.MIN_VALUE;
    private static final int GREATEST = Integer.MAX_VALUE;
    private static final Answers ANSWERS = new Answers();

    public static void main(String[] args) {
        howManyThereAre();
        firstAndLastTime();
        timesOutside();
        timesThatGrow();
        timesThatDoNotGrow();
        theOneBeforeIsTheTexts();
        numbersAtTheirBounds();
        numbersOutside();
        thirtyTwoAreAll();
        thirtyTwoInEachText();
        ANSWERS.end();
    }

    private static void howManyThereAre() {
        ANSWERS.says("A key more in the text: how many it has");
        Desk desk = new Desk(1);
        ANSWERS.due(desk, desk.count(4), 0);
        for (int k = 1; k <= 5; k++) {
            ANSWERS.due(desk, desk.key(10 * k, k, k, k), k);
            ANSWERS.due(desk, desk.count(4), k);
        }
    }

    private static void firstAndLastTime() {
        ANSWERS.says("if the time is not 0 .. 1000000");
        int[] good = {0, 1, 999999, 1000000};
        for (int time : good) {
            Desk desk = new Desk(1);
            ANSWERS.due(desk, desk.key(time, 1, 1, 1), 1);
            ANSWERS.due(desk, desk.count(4), 1);
        }
        Desk both = new Desk(1);
        ANSWERS.due(both, both.key(0, 1, 1, 1), 1);
        ANSWERS.due(both, both.key(1000000, 1, 1, 1), 2);
    }

    private static void timesOutside() {
        ANSWERS.says("NONE, and it does not come, if the time is not 0 .. 1000000");
        int[] wrong = {-1, -2, LEAST + 1, LEAST, 1000001, 1000002, GREATEST - 1, GREATEST};
        for (int time : wrong) {
            Scene.WITHOUT_TEXT.isKeptBy(ANSWERS, desk -> desk.key(time, 1, 1, 1), NONE);
            Scene.WITH_TEXT.isKeptBy(ANSWERS, desk -> desk.key(time, 1, 1, 1), NONE);
        }
    }

    private static void timesThatGrow() {
        ANSWERS.says("or not above the one before");
        Desk desk = new Desk(1);
        int[] growing = {0, 1, 2, 10, 500000, 999999, 1000000};
        for (int k = 0; k < growing.length; k++) {
            ANSWERS.due(desk, desk.key(growing[k], 1, 1, 1), k + 1);
        }
    }

    private static void timesThatDoNotGrow() {
        ANSWERS.says("or not above the one before");
        int[] before = {0, 1, 10, 999999, 1000000};
        for (int time : before) {
            Desk desk = new Desk(1);
            desk.key(time, 1, 1, 1);
            ANSWERS.due(desk, desk.key(time, 1, 1, 1), NONE);
            ANSWERS.due(desk, desk.key(time - 1, 1, 1, 1), NONE);
            ANSWERS.due(desk, desk.key(0, 1, 1, 1), NONE);
            ANSWERS.due(desk, desk.count(4), 1);
        }
        // The text of this scene has keys at 10 and 30.
        int[] wrong = {0, 9, 10, 11, 29, 30};
        for (int time : wrong) {
            Scene.WITH_TEXT.isKeptBy(ANSWERS, desk -> desk.key(time, 1, 1, 1), NONE);
        }
    }

    private static void theOneBeforeIsTheTexts() {
        ANSWERS.says("or not above the one before");
        Desk desk = new Desk(1);
        desk.time(900);
        ANSWERS.due(desk, desk.key(500, 1, 1, 1), 1);
        ANSWERS.due(desk, desk.key(800, 4194305, 1, 1), NONE);
        ANSWERS.due(desk, desk.key(1000001, 1, 1, 1), NONE);
        ANSWERS.due(desk, desk.key(501, 1, 1, 1), 2);
        desk.track(0, 0, 0);
        ANSWERS.due(desk, desk.key(501, 1, 1, 1), 1);
        desk.track(0, 0, 9);
        ANSWERS.due(desk, desk.key(0, 1, 1, 1), 1);
    }

    private static void numbersAtTheirBounds() {
        ANSWERS.says("a number is not -4194304 .. 4194304");
        int[] good = {-4194304, -4194303, 4194303, 4194304};
        for (int n : good) {
            Desk desk = new Desk(1);
            ANSWERS.due(desk, desk.key(0, n, 0, 0), 1);
            ANSWERS.due(desk, desk.key(1, 0, n, 0), 2);
            ANSWERS.due(desk, desk.key(2, 0, 0, n), 3);
            ANSWERS.due(desk, desk.key(3, n, n, n), 4);
            desk.track(0, 0, 0);
            desk.time(0);
            ANSWERS.dueThree(desk, 0, 0, n, 0, 0);
            desk.time(3);
            ANSWERS.dueThree(desk, 0, 0, n, n, n);
        }
    }

    private static void numbersOutside() {
        ANSWERS.says("a number is not -4194304 .. 4194304");
        int[] wrong = {-4194305, LEAST + 1, LEAST, 4194305, GREATEST - 1, GREATEST};
        for (int n : wrong) {
            Scene.WITHOUT_TEXT.isKeptBy(ANSWERS, desk -> desk.key(0, n, 1, 1), NONE);
            Scene.WITHOUT_TEXT.isKeptBy(ANSWERS, desk -> desk.key(0, 1, n, 1), NONE);
            Scene.WITHOUT_TEXT.isKeptBy(ANSWERS, desk -> desk.key(0, 1, 1, n), NONE);
            Scene.WITH_TEXT.isKeptBy(ANSWERS, desk -> desk.key(31, n, 1, 1), NONE);
            Scene.WITH_TEXT.isKeptBy(ANSWERS, desk -> desk.key(31, 1, n, 1), NONE);
            Scene.WITH_TEXT.isKeptBy(ANSWERS, desk -> desk.key(31, 1, 1, n), NONE);
        }
    }

    private static void thirtyTwoAreAll() {
        ANSWERS.says("or there are 32");
        Desk desk = new Desk(1);
        for (int k = 1; k <= 32; k++) {
            ANSWERS.due(desk, desk.key(k, k, -k, 2 * k), k);
        }
        ANSWERS.due(desk, desk.key(33, 1, 1, 1), NONE);
        ANSWERS.due(desk, desk.key(1000000, 1, 1, 1), NONE);
        ANSWERS.due(desk, desk.count(4), 32);
        desk.track(0, 0, 0);
        for (int k = 1; k <= 32; k++) {
            desk.time(k);
            ANSWERS.dueThree(desk, 0, 0, k, -k, 2 * k);
        }
        desk.time(1000000);
        ANSWERS.dueThree(desk, 0, 0, 32, -32, 64);
        // The scene's keys are at 1 to 32.
        int[] times = {33, 1000000};
        for (int time : times) {
            Scene.WITH_FULL_TEXT.isKeptBy(ANSWERS, full -> full.key(time, -1, -2, -3), NONE);
        }
    }

    private static void thirtyTwoInEachText() {
        ANSWERS.says("or there are 32");
        Desk desk = new Desk(1);
        for (int text = 0; text < 3; text++) {
            for (int k = 1; k <= 32; k++) {
                ANSWERS.due(desk, desk.key(k, text, k, k), k);
            }
            ANSWERS.due(desk, desk.key(33, 1, 1, 1), NONE);
            // The second text is given up by a refused track, and a new one begins just the same.
            ANSWERS.due(desk, desk.track(0, 0, text == 1 ? 3 : 0), text == 1 ? NONE : text / 2);
        }
        ANSWERS.due(desk, desk.count(2), 64);
    }
}
