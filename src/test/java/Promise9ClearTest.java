/** Promise 9: the tracks go; the nodes, the time and the text stay. */
public final class Promise9ClearTest {
    private static final int NONE = MotionDesk.NONE;
    private static final Answers ANSWERS = new Answers();

    public static void main(String[] args) {
        tracksGoAndTheRestStays();
        clearedTracksSetNothing();
        numbersBeginAnew();
        theTextStays();
        aNewDeskCanBeCleared();
        ANSWERS.end();
    }

    private static MotionDesk deskAtFive() {
        MotionDesk desk = new MotionDesk(2);
        desk.key(0, 0, 0, 0);
        desk.key(10, 100, 200, 300);
        desk.track(1, 0, 1);
        desk.set(0, 1, 7, 8, 9);
        desk.time(5);
        return desk;
    }

    private static void tracksGoAndTheRestStays() {
        MotionDesk desk = deskAtFive();
        desk.clear();
        ANSWERS.due("count(0)", desk.count(0), 2);
        ANSWERS.due("count(1)", desk.count(1), 0);
        ANSWERS.due("count(2)", desk.count(2), 0);
        ANSWERS.due("count(3)", desk.count(3), 5);
        ANSWERS.due("about(0, 0)", desk.about(0, 0), NONE);
        ANSWERS.dueThree("cleared", desk, 1, 0, 50, 100, 150);
        ANSWERS.dueThree("cleared", desk, 0, 1, 7, 8, 9);
        ANSWERS.dueThree("cleared", desk, 0, 2, 65536, 65536, 65536);
    }

    private static void clearedTracksSetNothing() {
        MotionDesk desk = deskAtFive();
        desk.clear();
        ANSWERS.due("time(10)", desk.time(10), true);
        ANSWERS.dueThree("at 10", desk, 1, 0, 50, 100, 150);
    }

    private static void numbersBeginAnew() {
        MotionDesk desk = new MotionDesk(1);
        for (int k = 0; k < 32; k++) {
            desk.key(0, 1, 1, 1);
            desk.key(9, 1, 1, 1);
            desk.track(0, 0, 0);
        }
        desk.clear();
        for (int k = 0; k < 32; k++) {
            desk.key(0, k, k, k);
            ANSWERS.due("track " + k, desk.track(0, 1, 2), k);
        }
        ANSWERS.due("count(2)", desk.count(2), 32);
        ANSWERS.due("about(0, 3)", desk.about(0, 3), 1);
        desk.time(100);
        ANSWERS.dueThree("the new tracks'", desk, 0, 1, 31, 31, 31);
        ANSWERS.dueThree("the old tracks'", desk, 0, 0, 0, 0, 0);
    }

    private static void theTextStays() {
        MotionDesk desk = deskAtFive();
        desk.key(3, 1, 2, 3);
        desk.clear();
        ANSWERS.due("count(4)", desk.count(4), 1);
        ANSWERS.due("key(3)", desk.key(3, 0, 0, 0), NONE);
        ANSWERS.due("key(4)", desk.key(4, 4, 5, 6), 2);
        ANSWERS.due("track", desk.track(0, 0, 0), 0);
        desk.time(3);
        ANSWERS.dueThree("at 3", desk, 0, 0, 1, 2, 3);
    }

    private static void aNewDeskCanBeCleared() {
        MotionDesk desk = new MotionDesk(1);
        desk.clear();
        desk.clear();
        ANSWERS.due("count(1)", desk.count(1), 0);
        desk.key(0, 1, 1, 1);
        ANSWERS.due("track", desk.track(0, 0, 0), 0);
    }
}
