/** Promise 1: how many nodes, what they have at first, no tracks, no keys, time 0. */
public final class Promise1NewObjectTest {
    private static final Answers ANSWERS = new Answers();

    public static void main(String[] args) {
        nodesAreBroughtIntoTheirBounds();
        everyNodeBeginsAtRest();
        nothingElseIsThere();
        objectsShareNothing();
        ANSWERS.end();
    }

    private static void nodesAreBroughtIntoTheirBounds() {
        int[] asked = {Integer.MIN_VALUE, -1, 0, 1, 2, 47, 48, 49, 1000, Integer.MAX_VALUE};
        int[] given = {1, 1, 1, 1, 2, 47, 48, 48, 48, 48};
        for (int k = 0; k < asked.length; k++) {
            MotionDesk desk = new MotionDesk(asked[k]);
            String name = "new MotionDesk(" + asked[k] + ")";
            ANSWERS.due(name + ": count(0)", desk.count(0), given[k]);
            ANSWERS.due(name + ": the last node", desk.set(given[k] - 1, 0, 1, 1, 1), true);
            ANSWERS.due(name + ": the one behind it", desk.set(given[k], 0, 1, 1, 1), false);
        }
    }

    private static void everyNodeBeginsAtRest() {
        MotionDesk desk = new MotionDesk(48);
        for (int node = 0; node < 48; node++) {
            ANSWERS.dueThree("new", desk, node, 0, 0, 0, 0);
            ANSWERS.dueThree("new", desk, node, 1, 0, 0, 0);
            ANSWERS.dueThree("new", desk, node, 2, 65536, 65536, 65536);
        }
    }

    private static void nothingElseIsThere() {
        MotionDesk desk = new MotionDesk(3);
        ANSWERS.due("new: tracks", desk.count(1), 0);
        ANSWERS.due("new: keys of all tracks", desk.count(2), 0);
        ANSWERS.due("new: the time", desk.count(3), 0);
        ANSWERS.due("new: keys of the text", desk.count(4), 0);
        ANSWERS.due("new: about(0, 0)", desk.about(0, 0), MotionDesk.NONE);
    }

    private static void objectsShareNothing() {
        MotionDesk one = new MotionDesk(1);
        MotionDesk other = new MotionDesk(1);
        one.key(0, 5, 5, 5);
        one.track(0, 0, 0);
        one.key(1, 5, 5, 5);
        one.time(7);
        ANSWERS.due("other: tracks", other.count(1), 0);
        ANSWERS.due("other: the time", other.count(3), 0);
        ANSWERS.due("other: keys of the text", other.count(4), 0);
        ANSWERS.dueThree("other", other, 0, 0, 0, 0, 0);
    }
}
