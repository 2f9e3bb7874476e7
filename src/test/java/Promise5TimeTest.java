/** Promise 5: the bounds of the time, and what each kind of track sets. */
public final class Promise5TimeTest {
    private static final Answers ANSWERS = new Answers();

    public static void main(String[] args) {
        timesHaveBounds();
        aRefusedTimeSetsNothing();
        bySteps();
        straight();
        smooth();
        oneKeyHoldsAlways();
        laterTracksWin();
        theSameTimeSetsAgain();
        theFarthestNumbersAndTimes();
        ANSWERS.end();
    }

    private static void timesHaveBounds() {
        MotionDesk desk = new MotionDesk(1);
        ANSWERS.due("time(1000000)", desk.time(1000000), true);
        ANSWERS.due("count(3)", desk.count(3), 1000000);
        ANSWERS.due("time(0)", desk.time(0), true);
        ANSWERS.due("count(3)", desk.count(3), 0);
        ANSWERS.due("time(77)", desk.time(77), true);
        int[] wrong = {-1, 1000001, Integer.MAX_VALUE, Integer.MIN_VALUE};
        for (int t : wrong) {
            ANSWERS.due("time(" + t + ")", desk.time(t), false);
            ANSWERS.due("count(3)", desk.count(3), 77);
        }
    }

    private static void aRefusedTimeSetsNothing() {
        MotionDesk desk = new MotionDesk(1);
        desk.key(0, 1, 1, 1);
        desk.track(0, 0, 0);
        desk.time(-1);
        ANSWERS.dueThree("time(-1)", desk, 0, 0, 0, 0, 0);
        desk.time(1000001);
        ANSWERS.dueThree("time(1000001)", desk, 0, 0, 0, 0, 0);
    }

    /** Keys at 10, 20 and 50. */
    private static MotionDesk deskWithThreeKeys(int what, int how) {
        MotionDesk desk = new MotionDesk(2);
        desk.key(10, 0, 100, -100);
        desk.key(20, 100, 0, -205);
        desk.key(50, -7, 7, 0);
        desk.track(1, what, how);
        return desk;
    }

    private static void at(MotionDesk desk, int what, int t, int x, int y, int z) {
        ANSWERS.due("time(" + t + ")", desk.time(t), true);
        ANSWERS.dueThree("at " + t, desk, 1, what, x, y, z);
    }

    private static void theEdgesOfThreeKeys(MotionDesk desk, int what) {
        at(desk, what, 0, 0, 100, -100);
        at(desk, what, 9, 0, 100, -100);
        at(desk, what, 10, 0, 100, -100);
        at(desk, what, 20, 100, 0, -205);
        at(desk, what, 50, -7, 7, 0);
        at(desk, what, 51, -7, 7, 0);
        at(desk, what, 1000000, -7, 7, 0);
    }

    private static void bySteps() {
        for (int what = 0; what < 3; what++) {
            MotionDesk desk = deskWithThreeKeys(what, 0);
            theEdgesOfThreeKeys(desk, what);
            at(desk, what, 11, 0, 100, -100);
            at(desk, what, 19, 0, 100, -100);
            at(desk, what, 21, 100, 0, -205);
            at(desk, what, 49, 100, 0, -205);
        }
    }

    private static void straight() {
        for (int what = 0; what < 3; what++) {
            MotionDesk desk = deskWithThreeKeys(what, 1);
            theEdgesOfThreeKeys(desk, what);
            // -105 * 1 / 10 is -10.5, and goes down to -11.
            at(desk, what, 11, 10, 90, -111);
            at(desk, what, 19, 90, 10, -195);
            // -107 / 30 is -3.57, 7 / 30 is 0.23, 205 / 30 is 6.83.
            at(desk, what, 21, 96, 0, -199);
            // -107 * 29 / 30 is -103.43, 7 * 29 / 30 is 6.77, 205 * 29 / 30 is 198.17.
            at(desk, what, 49, -4, 6, -7);
        }
    }

    private static void smooth() {
        for (int what = 0; what < 3; what++) {
            MotionDesk desk = deskWithThreeKeys(what, 2);
            theEdgesOfThreeKeys(desk, what);
            // f 32768, g 32768: half of 100, of -100, and of -105 (-52.5, down to -53).
            at(desk, what, 15, 50, 50, -153);
            // f 6553, f * f / 65536 655, g 1834: 2.79, -2.79 and -2.93, each down.
            at(desk, what, 11, 2, 97, -103);
        }
    }

    private static void oneKeyHoldsAlways() {
        for (int how = 0; how < 3; how++) {
            MotionDesk desk = new MotionDesk(2);
            desk.key(30, 3, 4, 5);
            desk.track(1, 0, how);
            at(desk, 0, 0, 3, 4, 5);
            at(desk, 0, 30, 3, 4, 5);
            at(desk, 0, 31, 3, 4, 5);
            at(desk, 0, 1000000, 3, 4, 5);
        }
    }

    private static void laterTracksWin() {
        MotionDesk desk = new MotionDesk(2);
        desk.key(0, 1, 1, 1);
        desk.track(1, 0, 0);
        desk.key(500, 2, 2, 2);
        desk.track(1, 0, 0);
        at(desk, 0, 0, 2, 2, 2);
        at(desk, 0, 700, 2, 2, 2);
    }

    private static void theSameTimeSetsAgain() {
        MotionDesk desk = new MotionDesk(2);
        desk.key(0, 1, 1, 1);
        desk.track(1, 0, 0);
        at(desk, 0, 0, 1, 1, 1);
        desk.set(1, 0, 9, 9, 9);
        at(desk, 0, 0, 1, 1, 1);
    }

    /** Here ints would overflow. */
    private static void theFarthestNumbersAndTimes() {
        MotionDesk straight = new MotionDesk(2);
        straight.key(0, -4194304, 4194304, -4194304);
        straight.key(1000000, 4194304, -4194304, 4194303);
        straight.track(1, 0, 1);
        // 8388608 * 0.999999 is 8388599.61, 8388607 * 0.999999 is 8388598.61.
        at(straight, 0, 999999, 4194295, -4194296, 4194294);
        at(straight, 0, 500000, 0, 0, -1);

        MotionDesk smooth = new MotionDesk(2);
        smooth.key(0, -4194304, 4194304, -4194304);
        smooth.key(1000000, 4194304, -4194304, 4194303);
        smooth.track(1, 0, 2);
        // f 65535, f * f / 65536 65534, g 65534 * 65538 / 65536 = 65535: 8388480.
        at(smooth, 0, 999999, 4194176, -4194176, 4194175);
        at(smooth, 0, 500000, 0, 0, -1);
    }
}
