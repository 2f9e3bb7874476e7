/** Promise 6: each number is found at its place, and 0 where there is none. */
public final class Promise6ValueTest {
    private static final int LEAST = Integer.MIN_VALUE;
    private static final int GREATEST = Integer.MAX_VALUE;
    private static final Answers ANSWERS = new Answers();

    public static void main(String[] args) {
        everyNumberHasItsPlace();
        firstAndLastOfEach();
        noSuchNode();
        noSuchWhat();
        noSuchNumber();
        askingChangesNothing();
        ANSWERS.end();
    }

    /** A desk for each what, since one desk answers for 512 calls only. */
    private static void everyNumberHasItsPlace() {
        ANSWERS.says("Of a node what's number i, 0 .. 2");
        for (int what = 0; what < 3; what++) {
            Desk desk = new Desk(48);
            for (int node = 0; node < 48; node++) {
                desk.set(node, what, 3 * node + 1, 3 * node + 2, 3 * node + 3);
            }
            for (int k = 0; k < 144; k++) {
                int node = k / 3;
                int rest = k % 3 == 2 ? 65536 : 0;
                if (k % 3 == what) {
                    ANSWERS.dueThree(desk, node, what, 3 * node + 1, 3 * node + 2, 3 * node + 3);
                } else {
                    ANSWERS.dueThree(desk, node, k % 3, rest, rest, rest);
                }
            }
        }
    }

    /** Nowhere 0, so that a number of a wrong place shows. */
    private static Desk fullDesk(int nodes) {
        Desk desk = new Desk(nodes);
        for (int k = 0; k < 3 * nodes; k++) {
            desk.set(k / 3, k % 3, 3 * k + 1, 3 * k + 2, 3 * k + 3);
        }
        return desk;
    }

    private static void firstAndLastOfEach() {
        ANSWERS.says("0 if there is none such");
        int[] counts = {1, 2, 48};
        for (int nodes : counts) {
            Desk desk = fullDesk(nodes);
            ANSWERS.due(desk, desk.value(0, 0, 0), 1);
            ANSWERS.due(desk, desk.value(0, 0, 2), 3);
            ANSWERS.due(desk, desk.value(0, 2, 2), 9);
            ANSWERS.due(desk, desk.value(nodes - 1, 0, 0), 9 * nodes - 8);
            ANSWERS.due(desk, desk.value(nodes - 1, 2, 2), 9 * nodes);
            ANSWERS.due(desk, desk.value(nodes, 0, 0), 0);
            ANSWERS.due(desk, desk.value(-1, 2, 2), 0);
            ANSWERS.due(desk, desk.value(nodes - 1, 3, 0), 0);
            ANSWERS.due(desk, desk.value(0, -1, 2), 0);
            ANSWERS.due(desk, desk.value(nodes - 1, 2, 3), 0);
            ANSWERS.due(desk, desk.value(0, 0, -1), 0);
        }
    }

    private static void noSuchNode() {
        ANSWERS.says("0 if there is none such");
        int[] wrong = {-1, -2, LEAST + 1, LEAST, 3, 4, 48, 49, 477218588, 477218589, GREATEST - 1, GREATEST};
        Desk desk = fullDesk(3);
        for (int node : wrong) {
            for (int k = 0; k < 9; k++) {
                ANSWERS.due(desk, desk.value(node, k / 3, k % 3), 0);
            }
        }
    }

    private static void noSuchWhat() {
        ANSWERS.says("0 if there is none such");
        int[] wrong = {-1, -2, LEAST + 1, LEAST, 3, 4, 1431655765, GREATEST - 1, GREATEST};
        Desk desk = fullDesk(3);
        for (int what : wrong) {
            for (int k = 0; k < 9; k++) {
                ANSWERS.due(desk, desk.value(k / 3, what, k % 3), 0);
            }
        }
    }

    private static void noSuchNumber() {
        ANSWERS.says("0 if there is none such");
        int[] wrong = {-1, -2, LEAST + 1, LEAST, 3, 4, GREATEST - 1, GREATEST};
        Desk desk = fullDesk(3);
        for (int i : wrong) {
            for (int k = 0; k < 9; k++) {
                ANSWERS.due(desk, desk.value(k / 3, k % 3, i), 0);
            }
        }
    }

    private static void askingChangesNothing() {
        ANSWERS.says("Nothing is promised beyond the answers and state changes described above");
        Scene.WITH_TEXT.isKeptBy(ANSWERS, desk -> desk.value(1, 1, 1), 52);
        Scene.WITH_TEXT.isKeptBy(ANSWERS, desk -> desk.value(3, 0, 0), 0);
        Scene.WITH_TEXT.isKeptBy(ANSWERS, desk -> desk.value(0, 3, 0), 0);
        Scene.WITH_TEXT.isKeptBy(ANSWERS, desk -> desk.value(0, 0, 3), 0);
    }
}
