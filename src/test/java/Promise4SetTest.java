/** Promise 4: what can be set, that it stays till the next time, and that a refusal changes nothing. */
public final class Promise4SetTest {
    private static final Answers ANSWERS = new Answers();

    public static void main(String[] args) {
        eachPlaceIsSetByItself();
        wrongNodesAndWhatsAreRefused();
        numbersHaveBounds();
        theNextTimeSetsAnew();
        ANSWERS.end();
    }

    private static void eachPlaceIsSetByItself() {
        MotionDesk desk = new MotionDesk(5);
        for (int k = 0; k < 15; k++) {
            ANSWERS.due("set", desk.set(k / 3, k % 3, k, 100 + k, -k), true);
        }
        for (int k = 0; k < 15; k++) {
            ANSWERS.dueThree("set", desk, k / 3, k % 3, k, 100 + k, -k);
        }
    }

    private static void wrongNodesAndWhatsAreRefused() {
        MotionDesk desk = new MotionDesk(2);
        int[] nodes = {-1, 2, 48, Integer.MAX_VALUE, Integer.MIN_VALUE, 477218589};
        for (int node : nodes) {
            for (int what = 0; what < 3; what++) {
                ANSWERS.due("node " + node, desk.set(node, what, 1, 1, 1), false);
            }
        }
        int[] whats = {-1, 3, Integer.MAX_VALUE, Integer.MIN_VALUE};
        for (int what : whats) {
            ANSWERS.due("what " + what, desk.set(0, what, 1, 1, 1), false);
            ANSWERS.due("what " + what, desk.set(1, what, 1, 1, 1), false);
        }
        for (int node = 0; node < 2; node++) {
            ANSWERS.dueThree("untouched", desk, node, 0, 0, 0, 0);
            ANSWERS.dueThree("untouched", desk, node, 1, 0, 0, 0);
            ANSWERS.dueThree("untouched", desk, node, 2, 65536, 65536, 65536);
        }
    }

    private static void numbersHaveBounds() {
        for (int what = 0; what < 3; what++) {
            int reach = what == 0 ? 4194304 : 1048576;
            MotionDesk desk = new MotionDesk(1);
            ANSWERS.due("highest", desk.set(0, what, reach, reach, reach), true);
            ANSWERS.dueThree("highest", desk, 0, what, reach, reach, reach);
            ANSWERS.due("lowest", desk.set(0, what, -reach, -reach, -reach), true);
            ANSWERS.dueThree("lowest", desk, 0, what, -reach, -reach, -reach);
            int[] wrong = {reach + 1, -reach - 1, Integer.MAX_VALUE, Integer.MIN_VALUE};
            for (int number : wrong) {
                ANSWERS.due(what + ": x " + number, desk.set(0, what, number, 0, 0), false);
                ANSWERS.due(what + ": y " + number, desk.set(0, what, 0, number, 0), false);
                ANSWERS.due(what + ": z " + number, desk.set(0, what, 0, 0, number), false);
            }
            ANSWERS.dueThree("refused", desk, 0, what, -reach, -reach, -reach);
        }
    }

    private static void theNextTimeSetsAnew() {
        MotionDesk desk = new MotionDesk(2);
        desk.key(0, 7, 8, 9);
        desk.track(0, 0, 1);
        desk.set(0, 0, 1, 2, 3);
        desk.set(0, 1, 4, 5, 6);
        desk.set(1, 0, 4, 5, 6);
        ANSWERS.dueThree("before the time", desk, 0, 0, 1, 2, 3);
        desk.time(-1);
        ANSWERS.dueThree("a refused time", desk, 0, 0, 1, 2, 3);
        desk.time(0);
        ANSWERS.dueThree("the track's", desk, 0, 0, 7, 8, 9);
        ANSWERS.dueThree("another what", desk, 0, 1, 4, 5, 6);
        ANSWERS.dueThree("another node", desk, 1, 0, 4, 5, 6);
    }
}
