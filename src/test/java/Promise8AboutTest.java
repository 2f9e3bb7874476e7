/** Promise 8: what is told of a track, and NONE where there is none such. */
public final class Promise8AboutTest {
    private static final int NONE = MotionDesk.NONE;
    private static final int LEAST = Integer.MIN_VALUE;
    private static final int GREATEST = Integer.MAX_VALUE;
    private static final Answers ANSWERS = new Answers();

    public static void main(String[] args) {
        eachTrackTellsOfItself();
        leastAndMost();
        noTracksAtAll();
        noSuchTrack();
        noTrackBehindTheLast();
        noSuchWhat();
        aRefusedTrackTellsNothing();
        askingChangesNothing();
        ANSWERS.end();
    }

    private static void due(Desk desk, int track, int node, int what, int how, int keys) {
        int[] want = {node, what, how, keys};
        for (int k = 0; k < want.length; k++) {
            ANSWERS.due(desk, desk.about(track, k), want[k]);
        }
    }

    private static void eachTrackTellsOfItself() {
        ANSWERS.says("Of a track what 0: the node, 1: WHAT, 2: HOW, 3: how many keys");
        Desk desk = new Desk(48);
        for (int track = 0; track < 32; track++) {
            for (int k = 0; k <= track % 5; k++) {
                desk.key(k, 0, 0, 0);
            }
            desk.track(47 - track, track % 3, track / 3 % 3);
        }
        for (int track = 0; track < 32; track++) {
            due(desk, track, 47 - track, track % 3, track / 3 % 3, track % 5 + 1);
        }
    }

    private static void leastAndMost() {
        ANSWERS.says("Of a track what 0: the node, 1: WHAT, 2: HOW, 3: how many keys");
        Desk desk = new Desk(48);
        desk.key(0, 0, 0, 0);
        desk.track(0, 0, 0);
        for (int k = 0; k < 32; k++) {
            desk.key(k, 0, 0, 0);
        }
        desk.track(47, 2, 2);
        due(desk, 0, 0, 0, 0, 1);
        due(desk, 1, 47, 2, 2, 32);
    }

    private static void noTracksAtAll() {
        ANSWERS.says("NONE if there is none such");
        int[] tracks = {LEAST, -1, 0, 1, 31, 32, GREATEST};
        Desk desk = new Desk(2);
        for (int track : tracks) {
            for (int what = 0; what < 4; what++) {
                ANSWERS.due(desk, desk.about(track, what), NONE);
            }
        }
    }

    private static void noSuchTrack() {
        ANSWERS.says("NONE if there is none such");
        // The scene's tracks are 0 to 2.
        int[] wrong = {-1, -2, LEAST + 1, LEAST, 3, 4, 31, 32, 33, GREATEST - 1, GREATEST};
        for (int track : wrong) {
            for (int k = 0; k < 4; k++) {
                int what = k;
                Scene.WITH_TEXT.isKeptBy(ANSWERS, desk -> desk.about(track, what), NONE);
            }
        }
    }

    private static void noTrackBehindTheLast() {
        ANSWERS.says("NONE if there is none such");
        Desk desk = new Desk(2);
        for (int track = 0; track < 32; track++) {
            desk.key(0, 0, 0, 0);
            ANSWERS.due(desk, desk.about(track, 0), NONE);
            desk.track(1, 2, 1);
            ANSWERS.due(desk, desk.about(track, 0), 1);
            ANSWERS.due(desk, desk.about(track + 1, 0), NONE);
        }
        due(desk, 31, 1, 2, 1, 1);
        due(desk, 32, NONE, NONE, NONE, NONE);
    }

    private static void noSuchWhat() {
        ANSWERS.says("NONE if there is none such");
        int[] wrong = {-1, -2, LEAST + 1, LEAST, 4, 5, GREATEST - 1, GREATEST};
        for (int what : wrong) {
            for (int k = 0; k < 3; k++) {
                int track = k;
                Scene.WITH_TEXT.isKeptBy(ANSWERS, desk -> desk.about(track, what), NONE);
            }
        }
    }

    private static void aRefusedTrackTellsNothing() {
        ANSWERS.says("NONE if there is none such");
        Desk desk = new Desk(2);
        desk.key(0, 2000000, 0, 0);
        desk.track(1, 1, 1);
        due(desk, 0, NONE, NONE, NONE, NONE);
        desk.key(0, 2000000, 0, 0);
        desk.track(1, 0, 2);
        due(desk, 0, 1, 0, 2, 1);
    }

    private static void askingChangesNothing() {
        ANSWERS.says("Nothing is promised beyond the answers and state changes described above");
        int[] want = {2, 2, 2, 2};
        for (int k = 0; k < want.length; k++) {
            int what = k;
            Scene.WITH_TEXT.isKeptBy(ANSWERS, desk -> desk.about(2, what), want[what]);
        }
    }
}
