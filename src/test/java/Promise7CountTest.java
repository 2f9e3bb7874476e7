/** Promise 7: the five counts, and NONE for another what. */
public final class Promise7CountTest {
    private static final int NONE = MotionDesk.NONE;
    private static final Answers ANSWERS = new Answers();

    public static void main(String[] args) {
        countsFollowTheCalls();
        leastAndMost();
        keysOfAllTracks();
        anotherWhatIsNone();
        askingChangesNothing();
        ANSWERS.end();
    }

    private static void due(Desk desk, int nodes, int tracks, int keys, int time, int text) {
        String behind = "behind " + desk.lastCall() + ": ";
        int[] want = {nodes, tracks, keys, time, text};
        for (int what = 0; what < want.length; what++) {
            ANSWERS.due(behind + "count(" + what + ")", desk.count(what), want[what]);
        }
    }

    private static void countsFollowTheCalls() {
        ANSWERS.says("What 0: how many nodes, 1: tracks, 2: keys of all tracks; 3: the time; 4: how many keys the text has");
        Desk desk = new Desk(7);
        due(desk, 7, 0, 0, 0, 0);
        desk.key(1, 0, 0, 0);
        desk.key(2, 0, 0, 0);
        due(desk, 7, 0, 0, 0, 2);
        desk.track(3, 1, 1);
        due(desk, 7, 1, 2, 0, 0);
        desk.key(1, 0, 0, 0);
        desk.key(2, 0, 0, 0);
        desk.key(3, 0, 0, 0);
        due(desk, 7, 1, 2, 0, 3);
        desk.track(6, 2, 2);
        due(desk, 7, 2, 5, 0, 0);
        desk.time(123);
        due(desk, 7, 2, 5, 123, 0);
        desk.key(9, 0, 0, 0);
        desk.track(7, 0, 0);
        due(desk, 7, 2, 5, 123, 0);
        desk.clear();
        due(desk, 7, 0, 0, 123, 0);
        desk.key(9, 0, 0, 0);
        desk.track(0, 0, 0);
        due(desk, 7, 1, 1, 123, 0);
    }

    private static void leastAndMost() {
        ANSWERS.says("What 0: how many nodes, 1: tracks, 2: keys of all tracks; 3: the time; 4: how many keys the text has");
        Desk least = new Desk(1);
        due(least, 1, 0, 0, 0, 0);
        Desk most = new Desk(48);
        for (int k = 0; k < 32; k++) {
            most.key(0, k, k, k);
            most.track(k, 0, 0);
        }
        for (int k = 0; k < 32; k++) {
            most.key(k, k, k, k);
        }
        most.time(1000000);
        due(most, 48, 32, 32, 1000000, 32);
    }

    /** More than 15 full tracks do not fit into 512 calls. */
    private static void keysOfAllTracks() {
        ANSWERS.says("2: keys of all tracks");
        Desk desk = new Desk(48);
        for (int track = 0; track < 15; track++) {
            for (int k = 0; k < 32; k++) {
                desk.key(k, k, k, k);
            }
            desk.track(track, 0, 1);
        }
        due(desk, 48, 15, 480, 0, 0);
    }

    private static void anotherWhatIsNone() {
        ANSWERS.says("NONE for another what");
        int[] wrong = {-1, -2, Integer.MIN_VALUE + 1, Integer.MIN_VALUE,
            5, 6, 7, 100, Integer.MAX_VALUE - 1, Integer.MAX_VALUE};
        for (int what : wrong) {
            Scene.WITH_TEXT.isKeptBy(ANSWERS, desk -> desk.count(what), NONE);
        }
    }

    private static void askingChangesNothing() {
        ANSWERS.says("Nothing is promised beyond the answers and state changes described above");
        int[] want = {3, 3, 7, 12, 2};
        for (int k = 0; k < want.length; k++) {
            int what = k;
            Scene.WITH_TEXT.isKeptBy(ANSWERS, desk -> desk.count(what), want[what]);
        }
    }
}
