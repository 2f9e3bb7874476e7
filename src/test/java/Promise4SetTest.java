/** Promise 4: what can be set, that it stays till the next time, and that a refusal changes nothing. */
public final class Promise4SetTest {
    private static final int LEAST = Integer.MIN_VALUE;
    private static final int GREATEST = Integer.MAX_VALUE;
    private static final Answers ANSWERS = new Answers();

    public static void main(String[] args) {
        eachPlaceIsSetByItself();
        nothingElseIsChanged();
        theLastNodeIsGood();
        noSuchNode();
        noSuchWhat();
        numbersAtTheirBounds();
        numbersOutside();
        theNextTimeSetsAnew();
        withoutATrackItStays();
        ANSWERS.end();
    }

    private static long set(Desk desk, int node, int what, int x, int y, int z) {
        return desk.set(node, what, x, y, z) ? 1 : 0;
    }

    private static void eachPlaceIsSetByItself() {
        ANSWERS.says("Of a node what is x y z: true");
        Desk desk = new Desk(5);
        for (int k = 0; k < 15; k++) {
            ANSWERS.due(desk, desk.set(k / 3, k % 3, k, 100 + k, -k), true);
        }
        for (int k = 0; k < 15; k++) {
            ANSWERS.dueThree(desk, k / 3, k % 3, k, 100 + k, -k);
        }
    }

    private static void nothingElseIsChanged() {
        ANSWERS.says("Of a node what is x y z: true");
        // What the scene has there already, so that nothing at all may change.
        Scene.WITH_TEXT.isKeptBy(ANSWERS, desk -> set(desk, 1, 1, 51, 52, 53), 1);
        Scene.WITH_TEXT.isKeptBy(ANSWERS, desk -> set(desk, 2, 2, 91, 92, 93), 1);
        Scene.WITH_TEXT.isKeptBy(ANSWERS, desk -> {
            desk.set(0, 0, -1, -2, -3);
            return set(desk, 0, 0, 11, 12, 13);
        }, 1);
    }

    private static void theLastNodeIsGood() {
        ANSWERS.says("false if there is no such node or what");
        int[] counts = {1, 2, 47, 48};
        for (int nodes : counts) {
            Desk desk = new Desk(nodes);
            for (int what = 0; what < 3; what++) {
                ANSWERS.due(desk, desk.set(0, what, 4, 5, 6), true);
                ANSWERS.due(desk, desk.set(nodes - 1, what, 1, 2, 3), true);
                ANSWERS.dueThree(desk, nodes - 1, what, 1, 2, 3);
                ANSWERS.due(desk, desk.set(nodes, what, 7, 7, 7), false);
                ANSWERS.due(desk, desk.set(-1, what, 7, 7, 7), false);
                ANSWERS.dueThree(desk, nodes - 1, what, 1, 2, 3);
            }
        }
    }

    private static void noSuchNode() {
        ANSWERS.says("false if there is no such node or what");
        int[] wrong = {-1, -2, LEAST + 1, LEAST, 3, 4, 48, 49, 477218588, 477218589, GREATEST - 1, GREATEST};
        for (int node : wrong) {
            for (int k = 0; k < 3; k++) {
                int what = k;
                Scene.WITH_TEXT.isKeptBy(ANSWERS, desk -> set(desk, node, what, 1, 1, 1), 0);
            }
        }
    }

    private static void noSuchWhat() {
        ANSWERS.says("false if there is no such node or what");
        int[] wrong = {-1, -2, LEAST + 1, LEAST, 3, 4, GREATEST - 1, GREATEST};
        for (int what : wrong) {
            for (int k = 0; k < 3; k++) {
                int node = k;
                Scene.WITH_TEXT.isKeptBy(ANSWERS, desk -> set(desk, node, what, 1, 1, 1), 0);
            }
        }
    }

    private static int reach(int what) {
        return what == 0 ? 4194304 : 1048576;
    }

    private static void numbersAtTheirBounds() {
        ANSWERS.says("or it can't have them");
        for (int what = 0; what < 3; what++) {
            int[] good = {-reach(what), 1 - reach(what), reach(what) - 1, reach(what)};
            Desk desk = new Desk(1);
            for (int n : good) {
                ANSWERS.due(desk, desk.set(0, what, n, 0, 0), true);
                ANSWERS.dueThree(desk, 0, what, n, 0, 0);
                ANSWERS.due(desk, desk.set(0, what, 0, n, 0), true);
                ANSWERS.dueThree(desk, 0, what, 0, n, 0);
                ANSWERS.due(desk, desk.set(0, what, 0, 0, n), true);
                ANSWERS.dueThree(desk, 0, what, 0, 0, n);
            }
        }
    }

    private static void numbersOutside() {
        ANSWERS.says("or it can't have them");
        for (int k = 0; k < 3; k++) {
            int what = k;
            int[] wrong = {-reach(what) - 1, LEAST + 1, LEAST, reach(what) + 1, GREATEST - 1, GREATEST};
            for (int n : wrong) {
                Scene.WITH_TEXT.isKeptBy(ANSWERS, desk -> set(desk, 1, what, n, 1, 1), 0);
                Scene.WITH_TEXT.isKeptBy(ANSWERS, desk -> set(desk, 1, what, 1, n, 1), 0);
                Scene.WITH_TEXT.isKeptBy(ANSWERS, desk -> set(desk, 1, what, 1, 1, n), 0);
            }
        }
    }

    private static void theNextTimeSetsAnew() {
        ANSWERS.says("The next time sets it anew, if there is a track for it");
        Desk desk = new Desk(1);
        desk.key(0, 7, 8, 9);
        desk.track(0, 0, 1);
        desk.set(0, 0, 1, 2, 3);
        ANSWERS.dueThree(desk, 0, 0, 1, 2, 3);
        desk.time(-1);
        ANSWERS.dueThree(desk, 0, 0, 1, 2, 3);
        desk.time(0);
        ANSWERS.dueThree(desk, 0, 0, 7, 8, 9);
    }

    private static void withoutATrackItStays() {
        ANSWERS.says("The next time sets it anew, if there is a track for it");
        Desk desk = new Desk(2);
        desk.key(0, 7, 8, 9);
        desk.track(0, 0, 1);
        desk.set(0, 1, 4, 5, 6);
        desk.set(0, 2, 14, 15, 16);
        desk.set(1, 0, 24, 25, 26);
        int[] times = {0, 1, 1000000};
        for (int t : times) {
            desk.time(t);
            ANSWERS.dueThree(desk, 0, 1, 4, 5, 6);
            ANSWERS.dueThree(desk, 0, 2, 14, 15, 16);
            ANSWERS.dueThree(desk, 1, 0, 24, 25, 26);
        }
    }
}
