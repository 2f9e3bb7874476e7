/** Promise 2: which keys come into the text, and what is answered. */
public final class Promise2KeyTest {
    private static final int NONE = MotionDesk.NONE;
    private static final Answers ANSWERS = new Answers();

    public static void main(String[] args) {
        timesHaveBounds();
        timesGrow();
        numbersHaveBounds();
        aRefusedKeyLeavesNothing();
        thirtyTwoAreAllThatCome();
        aNewTextBeginsItsTimesAnew();
        ANSWERS.end();
    }

    private static void timesHaveBounds() {
        MotionDesk desk = new MotionDesk(1);
        ANSWERS.due("key(-1)", desk.key(-1, 0, 0, 0), NONE);
        ANSWERS.due("key(MIN)", desk.key(Integer.MIN_VALUE, 0, 0, 0), NONE);
        ANSWERS.due("key(1000001)", desk.key(1000001, 0, 0, 0), NONE);
        ANSWERS.due("key(MAX)", desk.key(Integer.MAX_VALUE, 0, 0, 0), NONE);
        ANSWERS.due("count(4)", desk.count(4), 0);
        ANSWERS.due("key(0)", desk.key(0, 0, 0, 0), 1);
        ANSWERS.due("key(1000000)", desk.key(1000000, 0, 0, 0), 2);
        ANSWERS.due("key(1000001) behind it", desk.key(1000001, 0, 0, 0), NONE);
        ANSWERS.due("count(4)", desk.count(4), 2);
    }

    private static void timesGrow() {
        MotionDesk desk = new MotionDesk(1);
        ANSWERS.due("key(10)", desk.key(10, 0, 0, 0), 1);
        ANSWERS.due("key(10) again", desk.key(10, 0, 0, 0), NONE);
        ANSWERS.due("key(9)", desk.key(9, 0, 0, 0), NONE);
        ANSWERS.due("key(11)", desk.key(11, 0, 0, 0), 2);
        ANSWERS.due("key(11) again", desk.key(11, 0, 0, 0), NONE);
        ANSWERS.due("key(0)", desk.key(0, 0, 0, 0), NONE);
        ANSWERS.due("count(4)", desk.count(4), 2);
    }

    private static void numbersHaveBounds() {
        int[] wrong = {4194305, -4194305, Integer.MAX_VALUE, Integer.MIN_VALUE};
        MotionDesk desk = new MotionDesk(1);
        for (int number : wrong) {
            ANSWERS.due("x " + number, desk.key(0, number, 0, 0), NONE);
            ANSWERS.due("y " + number, desk.key(0, 0, number, 0), NONE);
            ANSWERS.due("z " + number, desk.key(0, 0, 0, number), NONE);
        }
        ANSWERS.due("count(4)", desk.count(4), 0);
        ANSWERS.due("all lowest", desk.key(0, -4194304, -4194304, -4194304), 1);
        ANSWERS.due("all highest", desk.key(1, 4194304, 4194304, 4194304), 2);
    }

    private static void aRefusedKeyLeavesNothing() {
        MotionDesk desk = new MotionDesk(1);
        desk.key(10, 1, 2, 3);
        desk.key(50, 4194305, 9, 9);
        ANSWERS.due("a time between", desk.key(20, 4, 5, 6), 2);
        desk.key(20, 9, 9, 9);
        ANSWERS.due("track", desk.track(0, 0, 0), 0);
        desk.time(15);
        ANSWERS.dueThree("at 15", desk, 0, 0, 1, 2, 3);
        desk.time(60);
        ANSWERS.dueThree("at 60", desk, 0, 0, 4, 5, 6);
    }

    private static void thirtyTwoAreAllThatCome() {
        MotionDesk desk = new MotionDesk(1);
        for (int k = 1; k <= 32; k++) {
            ANSWERS.due("key " + k, desk.key(k, k, -k, 2 * k), k);
        }
        ANSWERS.due("key 33", desk.key(33, 0, 0, 0), NONE);
        ANSWERS.due("key 34", desk.key(34, 0, 0, 0), NONE);
        ANSWERS.due("count(4)", desk.count(4), 32);
        ANSWERS.due("track", desk.track(0, 0, 0), 0);
        ANSWERS.due("about(0, 3)", desk.about(0, 3), 32);
        desk.time(1000);
        ANSWERS.dueThree("at the end", desk, 0, 0, 32, -32, 64);
    }

    private static void aNewTextBeginsItsTimesAnew() {
        MotionDesk desk = new MotionDesk(1);
        desk.key(500, 0, 0, 0);
        desk.track(0, 0, 0);
        ANSWERS.due("key(500) of a new text", desk.key(500, 0, 0, 0), 1);
        desk.track(7, 7, 7);
        ANSWERS.due("key(3) of a new text", desk.key(3, 0, 0, 0), 1);
    }
}
