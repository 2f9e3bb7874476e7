/** Gathers the answers of one test that are not the ones that are due. */
final class Answers {
    private int wrong = 0;

    void due(String call, long got, long want) {
        if (got != want) {
            wrong++;
            System.out.println(call + " answered " + got + ", due is " + want);
        }
    }

    void due(String call, boolean got, boolean want) {
        due(call, got ? 1 : 0, want ? 1 : 0);
    }

    /** All three numbers of what a node has. */
    void dueThree(String when, MotionDesk desk, int node, int what, int x, int y, int z) {
        due(when + ": value(" + node + ", " + what + ", 0)", desk.value(node, what, 0), x);
        due(when + ": value(" + node + ", " + what + ", 1)", desk.value(node, what, 1), y);
        due(when + ": value(" + node + ", " + what + ", 2)", desk.value(node, what, 2), z);
    }

    void end() {
        if (wrong != 0) {
            System.out.println(wrong + " answers are not as due");
            System.exit(1);
        }
    }
}
