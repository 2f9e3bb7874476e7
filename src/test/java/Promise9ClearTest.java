/** Promise 9: the tracks go; the nodes, the time and the text stay. */
public final class Promise9ClearTest {
    private static final int NONE = MotionDesk.NONE;
    private static final Answers ANSWERS = new Answers();

    public static void main(String[] args) {
        noTracksAnyMore();
        notOneOfThirtyTwo();
        clearedTracksSetNothing();
        numbersBeginAnew();
        theNodesStay();
        theTimeStays();
        theTextStays();
        aDeskWithoutTracks();
        ANSWERS.end();
    }

    private static Desk deskAtFive() {
        Desk desk = new Desk(2);
        desk.key(0, 0, 0, 0);
        desk.key(10, 100, 200, 300);
        desk.track(1, 0, 1);
        desk.set(0, 1, 7, 8, 9);
        desk.time(5);
        return desk;
    }

    private static void dueNoTracks(Desk desk) {
        ANSWERS.due(desk, desk.count(1), 0);
        ANSWERS.due(desk, desk.count(2), 0);
        for (int k = 0; k < 128; k++) {
            ANSWERS.due(desk, desk.about(k / 4, k % 4), NONE);
        }
    }

    private static void noTracksAnyMore() {
        ANSWERS.says("There are no tracks any more");
        Desk desk = deskAtFive();
        desk.clear();
        dueNoTracks(desk);
    }

    private static void notOneOfThirtyTwo() {
        ANSWERS.says("There are no tracks any more");
        Desk desk = new Desk(11);
        for (int k = 0; k < 32; k++) {
            desk.key(0, k + 1, k + 1, k + 1);
            desk.track(k / 3, k % 3, 0);
        }
        desk.clear();
        dueNoTracks(desk);
        desk.time(1);
        for (int k = 0; k < 32; k++) {
            int rest = k % 3 == 2 ? 65536 : 0;
            ANSWERS.dueThree(desk, k / 3, k % 3, rest, rest, rest);
        }
    }

    private static void clearedTracksSetNothing() {
        ANSWERS.says("There are no tracks any more");
        Desk desk = deskAtFive();
        desk.clear();
        int[] times = {0, 5, 10, 1000000};
        for (int t : times) {
            ANSWERS.due(desk, desk.time(t), true);
            ANSWERS.dueThree(desk, 1, 0, 50, 100, 150);
        }
    }

    private static void numbersBeginAnew() {
        ANSWERS.says("There are no tracks any more");
        Desk desk = new Desk(1);
        for (int k = 0; k < 32; k++) {
            desk.key(0, 1, 1, 1);
            desk.key(9, 1, 1, 1);
            desk.track(0, 0, 0);
        }
        desk.clear();
        for (int k = 0; k < 32; k++) {
            desk.key(0, k, k, k);
            ANSWERS.due(desk, desk.track(0, 1, 2), k);
        }
        ANSWERS.due(desk, desk.count(2), 32);
        ANSWERS.due(desk, desk.about(0, 3), 1);
        desk.time(100);
        ANSWERS.dueThree(desk, 0, 1, 31, 31, 31);
        ANSWERS.dueThree(desk, 0, 0, 0, 0, 0);
    }

    private static void theNodesStay() {
        ANSWERS.says("the nodes and the time stay");
        Desk desk = deskAtFive();
        desk.clear();
        ANSWERS.due(desk, desk.count(0), 2);
        ANSWERS.dueThree(desk, 0, 0, 0, 0, 0);
        ANSWERS.dueThree(desk, 0, 1, 7, 8, 9);
        ANSWERS.dueThree(desk, 0, 2, 65536, 65536, 65536);
        ANSWERS.dueThree(desk, 1, 0, 50, 100, 150);
        ANSWERS.dueThree(desk, 1, 1, 0, 0, 0);
        ANSWERS.dueThree(desk, 1, 2, 65536, 65536, 65536);
    }

    private static void theTimeStays() {
        ANSWERS.says("the nodes and the time stay");
        int[] times = {0, 1, 5, 1000000};
        for (int t : times) {
            Desk desk = deskAtFive();
            desk.time(t);
            desk.clear();
            ANSWERS.due(desk, desk.count(3), t);
        }
    }

    /** The document names the tracks alone as what goes. */
    private static void theTextStays() {
        ANSWERS.says("Nothing is promised beyond the answers and state changes described above");
        Desk desk = deskAtFive();
        desk.key(3, 1, 2, 3);
        desk.clear();
        ANSWERS.due(desk, desk.count(4), 1);
        ANSWERS.due(desk, desk.key(3, 0, 0, 0), NONE);
        ANSWERS.due(desk, desk.key(4, 4, 5, 6), 2);
        ANSWERS.due(desk, desk.track(0, 0, 0), 0);
        desk.time(3);
        ANSWERS.dueThree(desk, 0, 0, 1, 2, 3);
        Scene.WITH_FULL_TEXT.isKeptBy(ANSWERS, full -> {
            full.clear();
            return 0;
        }, 0);
    }

    private static void aDeskWithoutTracks() {
        ANSWERS.says("There are no tracks any more");
        Desk desk = new Desk(1);
        desk.clear();
        desk.clear();
        dueNoTracks(desk);
        desk.key(0, 1, 1, 1);
        ANSWERS.due(desk, desk.track(0, 0, 0), 0);
    }
}
