import java.util.List;
import java.util.Set;
import java.util.TreeSet;

/** Gathers, by the sentences of the document, the answers of one test that are not the ones that are due. */
final class Answers {
    private int wrong = 0;
    private String words = "";
    private final Set<String> broken = new TreeSet<>();

    /** No call may throw, so a throw breaks the sentence that is being asked for, and is told with it. */
    Answers() {
        Thread.setDefaultUncaughtExceptionHandler((thread, thrown) -> {
            thrown.printStackTrace(System.out);
            tell("a call threw " + thrown);
            end();
        });
    }

    /** What is due from here on is due because the document says these words. */
    void says(String wordsOfTheDocument) {
        words = wordsOfTheDocument;
    }

    void due(String call, long got, long want) {
        if (got != want) {
            tell(call + " answered " + got + ", due is " + want);
        }
    }

    void due(String call, boolean got, boolean want) {
        due(call, got ? 1 : 0, want ? 1 : 0);
    }

    void due(String call, String got, String want) {
        if (!got.equals(want)) {
            tell(call + " answered " + got + ", due is " + want);
        }
    }

    /** For the answer of the call that the desk has just had. */
    void due(Desk desk, long got, long want) {
        due(desk.lastCall(), got, want);
    }

    void due(Desk desk, boolean got, boolean want) {
        due(desk.lastCall(), got, want);
    }

    /** All three numbers of what a node has. */
    void dueThree(Desk desk, int node, int what, int x, int y, int z) {
        String behind = "behind " + desk.lastCall() + ": ";
        int[] want = {x, y, z};
        for (int i = 0; i < 3; i++) {
            int got = desk.value(node, what, i);
            due(behind + desk.lastCall(), got, want[i]);
        }
    }

    /** Tells the first line alone: where one thing has changed, the others that hang on it follow. */
    void dueSame(String call, List<String> got, List<String> want) {
        for (int k = 0; k < Math.min(got.size(), want.size()); k++) {
            if (!got.get(k).equals(want.get(k))) {
                tell("behind " + call + ": " + got.get(k) + ", due is " + want.get(k));
                return;
            }
        }
        due("behind " + call + ": the count of answers", got.size(), want.size());
    }

    void end() {
        for (String sentence : broken) {
            System.out.println("broken: \"" + sentence + "\"");
        }
        if (wrong != 0) {
            System.out.println(wrong + " answers are not as due");
            System.exit(1);
        }
    }

    private void tell(String line) {
        wrong++;
        if (!words.isEmpty()) {
            broken.add(words);
        }
        System.out.println(line);
    }
}
