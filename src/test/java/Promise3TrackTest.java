/** Promise 3: which tracks come, their numbers, and that the text has no keys behind it. */
public final class Promise3TrackTest {
    private static final int NONE = MotionDesk.NONE;
    private static final int LEAST = Integer.MIN_VALUE;
    private static final int GREATEST = Integer.MAX_VALUE;
    private static final Answers ANSWERS = new Answers();

    public static void main(String[] args) {
        itsNumber();
        aRefusedOneTakesNoNumber();
        fewestAndMostKeys();
        theTextHasNoneBehindATrack();
        theTextHasNoneBehindARefusal();
        noKeysNoTrack();
        theLastNodeIsGood();
        noSuchNode();
        noSuchWhat();
        noSuchHow();
        numbersAtTheirBounds();
        numbersOutside();
        thirtyTwoAreAll();
        thirtyTwoAgainBehindClear();
        aTrackAloneSetsNothing();
        tracksKeepTheirOwnKeys();
        ANSWERS.end();
    }

    private static void itsNumber() {
        ANSWERS.says("The text's keys (it has none then, whatever comes of it) are a track: its number");
        Desk desk = new Desk(2);
        for (int k = 0; k < 9; k++) {
            desk.key(k, k, k, k);
            ANSWERS.due(desk, desk.track(k % 2, k / 3, k % 3), k);
            ANSWERS.due(desk, desk.count(1), k + 1);
        }
    }

    private static void aRefusedOneTakesNoNumber() {
        ANSWERS.says("they have numbers from 0 on");
        Desk desk = new Desk(2);
        for (int k = 0; k < 5; k++) {
            desk.key(0, 1, 1, 1);
            ANSWERS.due(desk, desk.track(0, 0, 3), NONE);
            desk.key(0, 1, 1, 1);
            ANSWERS.due(desk, desk.track(0, 0, 2), k);
        }
    }

    private static void fewestAndMostKeys() {
        ANSWERS.says("1 to 32 KEYS");
        int[] counts = {1, 2, 31, 32};
        for (int keys : counts) {
            Desk desk = new Desk(1);
            for (int k = 0; k < keys; k++) {
                desk.key(10 * k, k + 1, k + 2, k + 3);
            }
            ANSWERS.due(desk, desk.track(0, 0, 0), 0);
            ANSWERS.due(desk, desk.about(0, 3), keys);
            for (int k = 0; k < keys; k++) {
                desk.time(10 * k);
                ANSWERS.dueThree(desk, 0, 0, k + 1, k + 2, k + 3);
            }
        }
    }

    /** What is asked of a text that has no keys: how many, any time again as the first, and no track. */
    private static void dueNoKeys(Desk desk) {
        ANSWERS.due(desk, desk.count(4), 0);
        ANSWERS.due(desk, desk.track(0, 0, 0), NONE);
        ANSWERS.due(desk, desk.key(0, 1, 1, 1), 1);
    }

    private static Desk deskWithTwoKeys() {
        Desk desk = new Desk(3);
        desk.key(1, 2000000, 1, 1);
        desk.key(2, 1, 1, 1);
        return desk;
    }

    private static void theTextHasNoneBehindATrack() {
        ANSWERS.says("it has none then, whatever comes of it");
        Desk desk = deskWithTwoKeys();
        ANSWERS.due(desk, desk.track(2, 0, 2), 0);
        dueNoKeys(desk);
    }

    private static void theTextHasNoneBehindARefusal() {
        ANSWERS.says("it has none then, whatever comes of it");
        int[][] wrong = {
            {-1, 0, 0}, {3, 0, 0}, {LEAST, 0, 0}, {GREATEST, 0, 0},
            {0, -1, 0}, {0, 3, 0}, {0, LEAST, 0}, {0, GREATEST, 0},
            {0, 0, -1}, {0, 0, 3}, {0, 0, LEAST}, {0, 0, GREATEST},
            // The first key's first number is for a move alone.
            {0, 1, 0}, {0, 2, 0},
            {-1, -1, -1}, {3, 3, 3},
        };
        for (int[] w : wrong) {
            Desk desk = deskWithTwoKeys();
            ANSWERS.due(desk, desk.track(w[0], w[1], w[2]), NONE);
            dueNoKeys(desk);
        }
        Scene.WITH_ALL_TRACKS.becomes(Scene.WITH_ALL_TRACKS_BUT_NO_TEXT, ANSWERS, desk -> desk.track(0, 0, 0), NONE);
    }

    private static void noKeysNoTrack() {
        ANSWERS.says("NONE, and there is none more, if they are none");
        Desk desk = new Desk(1);
        ANSWERS.due(desk, desk.track(0, 0, 0), NONE);
        ANSWERS.due(desk, desk.count(1), 0);
        desk.key(0, 1, 1, 1);
        ANSWERS.due(desk, desk.track(0, 0, 0), 0);
        ANSWERS.due(desk, desk.track(0, 0, 0), NONE);
        ANSWERS.due(desk, desk.count(1), 1);
        Scene.WITHOUT_TEXT.isKeptBy(ANSWERS, d -> d.track(0, 0, 0), NONE);
        Scene.WITHOUT_TEXT.isKeptBy(ANSWERS, d -> d.track(2, 2, 2), NONE);
    }

    private static void theLastNodeIsGood() {
        ANSWERS.says("there is no such node, what or how");
        int[] counts = {1, 2, 47, 48};
        for (int nodes : counts) {
            for (int k = 0; k < 9; k++) {
                Desk desk = new Desk(nodes);
                desk.key(0, 7, 8, 9);
                ANSWERS.due(desk, desk.track(nodes - 1, k / 3, k % 3), 0);
                desk.time(0);
                ANSWERS.dueThree(desk, nodes - 1, k / 3, 7, 8, 9);
            }
            Desk desk = new Desk(nodes);
            desk.key(0, 7, 8, 9);
            ANSWERS.due(desk, desk.track(nodes, 0, 0), NONE);
            ANSWERS.due(desk, desk.count(1), 0);
        }
    }

    private static void noSuchNode() {
        ANSWERS.says("there is no such node, what or how");
        int[] wrong = {-1, -2, LEAST + 1, LEAST, 3, 4, 47, 48, 49, 477218588, GREATEST - 1, GREATEST};
        for (int node : wrong) {
            Scene.WITH_TEXT.becomes(Scene.WITHOUT_TEXT, ANSWERS, desk -> desk.track(node, 0, 0), NONE);
            Scene.WITH_TEXT.becomes(Scene.WITHOUT_TEXT, ANSWERS, desk -> desk.track(node, 2, 2), NONE);
        }
    }

    private static void noSuchWhat() {
        ANSWERS.says("there is no such node, what or how");
        int[] wrong = {-1, -2, LEAST + 1, LEAST, 3, 4, GREATEST - 1, GREATEST};
        for (int what : wrong) {
            Scene.WITH_TEXT.becomes(Scene.WITHOUT_TEXT, ANSWERS, desk -> desk.track(0, what, 0), NONE);
            Scene.WITH_TEXT.becomes(Scene.WITHOUT_TEXT, ANSWERS, desk -> desk.track(1, what, 2), NONE);
        }
    }

    private static void noSuchHow() {
        ANSWERS.says("there is no such node, what or how");
        int[] wrong = {-1, -2, LEAST + 1, LEAST, 3, 4, GREATEST - 1, GREATEST};
        for (int how : wrong) {
            Scene.WITH_TEXT.becomes(Scene.WITHOUT_TEXT, ANSWERS, desk -> desk.track(0, 0, how), NONE);
            Scene.WITH_TEXT.becomes(Scene.WITHOUT_TEXT, ANSWERS, desk -> desk.track(2, 2, how), NONE);
        }
    }

    /** A desk whose text has so many keys, all 0 but for one number of one key. */
    private static Desk deskWithANumber(int keys, int at, int axis, int number) {
        Desk desk = new Desk(1);
        for (int k = 0; k < keys; k++) {
            int n = k == at ? number : 0;
            desk.key(k, axis == 0 ? n : 0, axis == 1 ? n : 0, axis == 2 ? n : 0);
        }
        return desk;
    }

    private static void numbersAtTheirBounds() {
        ANSWERS.says("one of the numbers is none that the node can have there");
        int[] good = {-4194304, 4194304, -1048577, 1048577, -1048576, 1048576};
        for (int what = 0; what < 3; what++) {
            for (int e = what == 0 ? 0 : 4; e < good.length; e++) {
                for (int axis = 0; axis < 3; axis++) {
                    Desk desk = deskWithANumber(2, 1, axis, good[e]);
                    ANSWERS.due(desk, desk.track(0, what, 1), 0);
                    ANSWERS.due(desk, desk.count(1), 1);
                    desk.time(1);
                    ANSWERS.due(desk.lastCall() + ": the number", desk.value(0, what, axis), good[e]);
                }
            }
        }
    }

    private static void numbersOutside() {
        ANSWERS.says("one of the numbers is none that the node can have there");
        int[] wrong = {-4194304, -1048577, 1048577, 4194304};
        int[] places = {0, 1, 16, 30, 31};
        for (int number : wrong) {
            for (int at : places) {
                for (int k = 0; k < 6; k++) {
                    Desk desk = deskWithANumber(32, at, k % 3, number);
                    ANSWERS.due(desk, desk.track(0, 1 + k / 3, 1), NONE);
                    ANSWERS.due(desk, desk.count(1), 0);
                    ANSWERS.due(desk, desk.count(2), 0);
                    ANSWERS.due(desk, desk.about(0, 0), NONE);
                    dueNoKeys(desk);
                }
            }
        }
        for (int number : wrong) {
            Scene.WITH_TEXT.becomes(Scene.WITHOUT_TEXT, ANSWERS, desk -> {
                desk.key(31, 0, number, 0);
                return desk.track(1, 1, 0);
            }, NONE);
        }
    }

    private static Desk deskWithTracks(int tracks) {
        Desk desk = new Desk(1);
        for (int k = 0; k < tracks; k++) {
            desk.key(0, k, k, k);
            desk.track(0, 0, 0);
        }
        return desk;
    }

    private static void thirtyTwoAreAll() {
        ANSWERS.says("one of the numbers is none that the node can have there, or there are 32");
        Desk desk = deskWithTracks(31);
        desk.key(0, 77, 77, 77);
        ANSWERS.due(desk, desk.track(0, 0, 0), 31);
        ANSWERS.due(desk, desk.count(1), 32);
        desk.key(0, 99, 99, 99);
        ANSWERS.due(desk, desk.track(0, 0, 0), NONE);
        ANSWERS.due(desk, desk.count(1), 32);
        desk.time(0);
        ANSWERS.dueThree(desk, 0, 0, 77, 77, 77);
        // Places 0 to 31 have tracks in this scene; the last one, of node 10, has none.
        int[] nodes = {0, 5, 10};
        for (int node : nodes) {
            Scene.WITH_ALL_TRACKS.becomes(Scene.WITH_ALL_TRACKS_BUT_NO_TEXT, ANSWERS, d -> d.track(node, 2, 1), NONE);
        }
    }

    private static void thirtyTwoAgainBehindClear() {
        ANSWERS.says("At most 32 are there");
        Desk desk = deskWithTracks(32);
        desk.clear();
        for (int k = 0; k < 32; k++) {
            desk.key(0, -k, -k, -k);
            ANSWERS.due(desk, desk.track(0, 0, 0), k);
        }
        desk.key(0, 99, 99, 99);
        ANSWERS.due(desk, desk.track(0, 0, 0), NONE);
        desk.time(0);
        ANSWERS.dueThree(desk, 0, 0, -31, -31, -31);
    }

    private static void aTrackAloneSetsNothing() {
        ANSWERS.says("With each time(t), also with the one that it is, each track, in order, sets what it is for");
        Desk desk = new Desk(1);
        desk.key(0, 5, 6, 7);
        desk.track(0, 2, 0);
        ANSWERS.dueThree(desk, 0, 2, 65536, 65536, 65536);
        desk.time(0);
        ANSWERS.dueThree(desk, 0, 2, 5, 6, 7);
    }

    private static void tracksKeepTheirOwnKeys() {
        ANSWERS.says("The text's keys (it has none then, whatever comes of it) are a track");
        Desk desk = new Desk(2);
        desk.key(0, 1, 2, 3);
        desk.key(10, 4, 5, 6);
        desk.track(0, 0, 0);
        desk.key(0, 11, 12, 13);
        desk.key(5, 14, 15, 16);
        desk.key(8, 17, 18, 19);
        desk.track(1, 0, 0);
        desk.key(3, 99, 99, 99);
        desk.time(9);
        ANSWERS.dueThree(desk, 0, 0, 1, 2, 3);
        ANSWERS.dueThree(desk, 1, 0, 17, 18, 19);
    }
}
