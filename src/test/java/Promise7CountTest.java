/** Promise 7: the five counts, and NONE for another what. */
public final class Promise7CountTest {
    private static final Answers ANSWERS = new Answers();

    public static void main(String[] args) {
        countsFollowTheCalls();
        anotherWhatIsNone();
        ANSWERS.end();
    }

    private static void due(MotionDesk desk, String when, int tracks, int keys, int time, int text) {
        ANSWERS.due(when + ": count(0)", desk.count(0), 7);
        ANSWERS.due(when + ": count(1)", desk.count(1), tracks);
        ANSWERS.due(when + ": count(2)", desk.count(2), keys);
        ANSWERS.due(when + ": count(3)", desk.count(3), time);
        ANSWERS.due(when + ": count(4)", desk.count(4), text);
    }

    private static void countsFollowTheCalls() {
        MotionDesk desk = new MotionDesk(7);
        due(desk, "new", 0, 0, 0, 0);
        desk.key(1, 0, 0, 0);
        desk.key(2, 0, 0, 0);
        due(desk, "two keys", 0, 0, 0, 2);
        desk.track(3, 1, 1);
        due(desk, "a track of two", 1, 2, 0, 0);
        desk.key(1, 0, 0, 0);
        desk.key(2, 0, 0, 0);
        desk.key(3, 0, 0, 0);
        due(desk, "three keys more", 1, 2, 0, 3);
        desk.track(6, 2, 2);
        due(desk, "a track of three", 2, 5, 0, 0);
        desk.time(123);
        due(desk, "a time", 2, 5, 123, 0);
        desk.key(9, 0, 0, 0);
        desk.track(7, 0, 0);
        due(desk, "a refused track", 2, 5, 123, 0);
        desk.clear();
        due(desk, "cleared", 0, 0, 123, 0);
        desk.key(9, 0, 0, 0);
        desk.track(0, 0, 0);
        due(desk, "a track of one", 1, 1, 123, 0);
    }

    private static void anotherWhatIsNone() {
        MotionDesk desk = new MotionDesk(7);
        int[] wrong = {-1, 5, 6, 100, Integer.MAX_VALUE, Integer.MIN_VALUE};
        for (int what : wrong) {
            ANSWERS.due("count(" + what + ")", desk.count(what), MotionDesk.NONE);
        }
    }
}
