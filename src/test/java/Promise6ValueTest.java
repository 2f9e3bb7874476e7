/** Promise 6: each number is found at its place, and 0 where there is none. */
public final class Promise6ValueTest {
    private static final Answers ANSWERS = new Answers();

    public static void main(String[] args) {
        everyNumberHasItsPlace();
        elsewhereIsNought();
        askingChangesNothing();
        ANSWERS.end();
    }

    /** A desk for each what, since one desk answers for 512 calls only. */
    private static void everyNumberHasItsPlace() {
        for (int what = 0; what < 3; what++) {
            MotionDesk desk = new MotionDesk(48);
            for (int node = 0; node < 48; node++) {
                desk.set(node, what, 3 * node + 1, 3 * node + 2, 3 * node + 3);
            }
            for (int k = 0; k < 144; k++) {
                int node = k / 3;
                int rest = k % 3 == 2 ? 65536 : 0;
                if (k % 3 == what) {
                    ANSWERS.dueThree("set", desk, node, what, 3 * node + 1, 3 * node + 2, 3 * node + 3);
                } else {
                    ANSWERS.dueThree("not set", desk, node, k % 3, rest, rest, rest);
                }
            }
        }
    }

    private static void elsewhereIsNought() {
        MotionDesk desk = new MotionDesk(3);
        for (int k = 0; k < 9; k++) {
            desk.set(k / 3, k % 3, 5, 6, 7);
        }
        int[] wrong = {-1, 3, 4, 9, 48, Integer.MAX_VALUE, Integer.MIN_VALUE};
        for (int w : wrong) {
            for (int right = 0; right < 3; right++) {
                ANSWERS.due("node " + w, desk.value(w, right, right), 0);
                ANSWERS.due("what " + w, desk.value(right, w, right), 0);
                ANSWERS.due("i " + w, desk.value(right, right, w), 0);
            }
        }
    }

    private static void askingChangesNothing() {
        MotionDesk desk = new MotionDesk(1);
        desk.key(0, 1, 2, 3);
        ANSWERS.dueThree("first", desk, 0, 2, 65536, 65536, 65536);
        ANSWERS.dueThree("again", desk, 0, 2, 65536, 65536, 65536);
        ANSWERS.due("count(4)", desk.count(4), 1);
        ANSWERS.due("count(3)", desk.count(3), 0);
    }
}
