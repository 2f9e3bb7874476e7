/** Promise 1: how many nodes, what they have at first, no tracks, no keys, time 0. */
public final class Promise1NewObjectTest {
    private static final int NONE = MotionDesk.NONE;
    private static final Answers ANSWERS = new Answers();

    public static void main(String[] args) {
        soManyNodes();
        lessIsOne();
        moreIsFortyEight();
        noTracks();
        noKeysInTheText();
        nodesAtFirst();
        timeAtFirst();
        objectsShareNothing();
        ANSWERS.end();
    }

    private static void dueNodes(int asked, int given) {
        Desk desk = new Desk(asked);
        String name = desk.lastCall() + ": ";
        ANSWERS.due(name + "count(0)", desk.count(0), given);
        ANSWERS.due(name + "the last node's size", desk.value(given - 1, 2, 2), 65536);
        ANSWERS.due(name + "set of the last node", desk.set(given - 1, 0, 1, 1, 1), true);
        ANSWERS.due(name + "the size of the one behind it", desk.value(given, 2, 0), 0);
        ANSWERS.due(name + "set of the one behind it", desk.set(given, 0, 1, 1, 1), false);
        desk.key(0, 1, 1, 1);
        ANSWERS.due(name + "a track for the one behind it", desk.track(given, 0, 0), NONE);
        desk.key(0, 1, 1, 1);
        ANSWERS.due(name + "a track for the last node", desk.track(given - 1, 0, 0), 0);
    }

    private static void soManyNodes() {
        ANSWERS.says("So many nodes, 1 .. 48");
        for (int nodes = 1; nodes <= 48; nodes++) {
            dueNodes(nodes, nodes);
        }
    }

    private static void lessIsOne() {
        ANSWERS.says("what is less or more is the nearest of these");
        int[] less = {0, -1, -2, -48, -65536, Integer.MIN_VALUE + 1, Integer.MIN_VALUE};
        for (int nodes : less) {
            dueNodes(nodes, 1);
        }
    }

    private static void moreIsFortyEight() {
        ANSWERS.says("what is less or more is the nearest of these");
        int[] more = {49, 50, 96, 1000, 65537, Integer.MAX_VALUE - 1, Integer.MAX_VALUE};
        for (int nodes : more) {
            dueNodes(nodes, 48);
        }
    }

    private static void noTracks() {
        ANSWERS.says("no tracks");
        Desk desk = new Desk(1);
        ANSWERS.due(desk, desk.count(1), 0);
        ANSWERS.due(desk, desk.count(2), 0);
        for (int what = 0; what < 4; what++) {
            ANSWERS.due(desk, desk.about(0, what), NONE);
        }
        int[] times = {0, 1, 1000000};
        for (int t : times) {
            ANSWERS.due(desk, desk.time(t), true);
            ANSWERS.dueThree(desk, 0, 0, 0, 0, 0);
            ANSWERS.dueThree(desk, 0, 1, 0, 0, 0);
            ANSWERS.dueThree(desk, 0, 2, 65536, 65536, 65536);
        }
    }

    private static void noKeysInTheText() {
        ANSWERS.says("the text has no keys");
        Desk desk = new Desk(1);
        ANSWERS.due(desk, desk.count(4), 0);
        ANSWERS.due(desk, desk.track(0, 0, 0), NONE);
        Desk other = new Desk(1);
        ANSWERS.due(other, other.key(0, 1, 1, 1), 1);
    }

    private static void nodesAtFirst() {
        ANSWERS.says("at first 0 0 0, 0 0 0, 65536 65536 65536");
        int[] counts = {1, 2, 48};
        for (int nodes : counts) {
            Desk desk = new Desk(nodes);
            for (int node = 0; node < nodes; node++) {
                ANSWERS.dueThree(desk, node, 0, 0, 0, 0);
                ANSWERS.dueThree(desk, node, 1, 0, 0, 0);
                ANSWERS.dueThree(desk, node, 2, 65536, 65536, 65536);
            }
        }
    }

    private static void timeAtFirst() {
        ANSWERS.says("TIME is an int, 0 at first");
        Desk desk = new Desk(1);
        ANSWERS.due(desk, desk.count(3), 0);
    }

    private static void objectsShareNothing() {
        ANSWERS.says("All memory is the desk's own, made once");
        Desk one = new Desk(1);
        Desk other = new Desk(1);
        one.key(0, 5, 5, 5);
        one.track(0, 0, 0);
        one.key(1, 5, 5, 5);
        one.time(7);
        ANSWERS.due(other, other.count(1), 0);
        ANSWERS.due(other, other.count(3), 0);
        ANSWERS.due(other, other.count(4), 0);
        ANSWERS.dueThree(other, 0, 0, 0, 0, 0);
    }
}
