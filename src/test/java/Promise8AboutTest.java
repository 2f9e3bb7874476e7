/** Promise 8: what is told of a track, and NONE where there is none such. */
public final class Promise8AboutTest {
    private static final int NONE = MotionDesk.NONE;
    private static final Answers ANSWERS = new Answers();

    public static void main(String[] args) {
        eachTrackTellsOfItself();
        noSuchTrackOrWhat();
        aRefusedTrackTellsNothing();
        ANSWERS.end();
    }

    private static void eachTrackTellsOfItself() {
        MotionDesk desk = new MotionDesk(48);
        for (int track = 0; track < 32; track++) {
            for (int k = 0; k <= track % 5; k++) {
                desk.key(k, 0, 0, 0);
            }
            desk.track(47 - track, track % 3, track / 3 % 3);
        }
        for (int track = 0; track < 32; track++) {
            ANSWERS.due("about(" + track + ", 0)", desk.about(track, 0), 47 - track);
            ANSWERS.due("about(" + track + ", 1)", desk.about(track, 1), track % 3);
            ANSWERS.due("about(" + track + ", 2)", desk.about(track, 2), track / 3 % 3);
            ANSWERS.due("about(" + track + ", 3)", desk.about(track, 3), track % 5 + 1);
        }
        ANSWERS.due("about(32, 0)", desk.about(32, 0), NONE);
    }

    private static void noSuchTrackOrWhat() {
        MotionDesk desk = new MotionDesk(2);
        ANSWERS.due("no tracks: about(0, 0)", desk.about(0, 0), NONE);
        desk.key(0, 0, 0, 0);
        desk.track(1, 2, 1);
        int[] tracks = {-1, 1, 31, 32, Integer.MAX_VALUE, Integer.MIN_VALUE};
        for (int track : tracks) {
            for (int what = 0; what < 4; what++) {
                ANSWERS.due("about(" + track + ", " + what + ")", desk.about(track, what), NONE);
            }
        }
        int[] whats = {-1, 4, 5, Integer.MAX_VALUE, Integer.MIN_VALUE};
        for (int what : whats) {
            ANSWERS.due("about(0, " + what + ")", desk.about(0, what), NONE);
        }
    }

    private static void aRefusedTrackTellsNothing() {
        MotionDesk desk = new MotionDesk(2);
        desk.key(0, 2000000, 0, 0);
        desk.track(1, 1, 1);
        ANSWERS.due("about(0, 0)", desk.about(0, 0), NONE);
        desk.key(0, 2000000, 0, 0);
        desk.track(1, 0, 2);
        ANSWERS.due("about(0, 2)", desk.about(0, 2), 2);
    }
}
