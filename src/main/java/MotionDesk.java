/**
 * Movements of the things of a scene: tracks of keys that set moves, turns and sizes
 * whenever the time is told, by steps, straight, or smoothly.
 */
public final class MotionDesk {
    public static final int NONE = -1;

    private static final int MAX_NODES = 48;
    private static final int MAX_TRACKS = 32;
    private static final int MAX_KEYS = 32;
    private static final int LAST_TIME = 1000000;

    private static final int MOVE = 0;
    private static final int SIZE = 2;
    private static final int WHATS = 3;
    private static final int AXES = 3;
    private static final int MOVE_REACH = 4194304;
    private static final int OTHER_REACH = 1048576;

    private static final int BY_STEPS = 0;
    private static final int STRAIGHT = 1;
    private static final int SMOOTH = 2;
    private static final int ONE = 65536;

    private final int nodeCount;
    private final int[] values;

    private int trackCount;
    private final int[] trackNode;
    private final int[] trackWhat;
    private final int[] trackHow;
    private final int[] trackKeys;
    // Each track has room for MAX_KEYS keys of its own, so that none ever has to be moved.
    private final int[] keyTimes;
    private final int[] keyNumbers;

    private int textCount;
    private final int[] textTimes;
    private final int[] textNumbers;

    private int now;

    public MotionDesk(int nodes) {
        nodeCount = Math.max(1, Math.min(MAX_NODES, nodes));
        values = new int[nodeCount * WHATS * AXES];
        for (int node = 0; node < nodeCount; node++) {
            for (int i = 0; i < AXES; i++) {
                values[placeOf(node, SIZE) + i] = ONE;
            }
        }
        trackNode = new int[MAX_TRACKS];
        trackWhat = new int[MAX_TRACKS];
        trackHow = new int[MAX_TRACKS];
        trackKeys = new int[MAX_TRACKS];
        keyTimes = new int[MAX_TRACKS * MAX_KEYS];
        keyNumbers = new int[MAX_TRACKS * MAX_KEYS * AXES];
        textTimes = new int[MAX_KEYS];
        textNumbers = new int[MAX_KEYS * AXES];
    }

    public int key(int time, int x, int y, int z) {
        // A move reaches farthest, so what no move can have no track can use.
        if (textCount >= MAX_KEYS || !isTime(time) || !canHave(MOVE, x, y, z)) {
            return NONE;
        }
        if (textCount > 0 && time <= textTimes[textCount - 1]) {
            return NONE;
        }
        textTimes[textCount] = time;
        putThree(textNumbers, textCount * AXES, x, y, z);
        textCount++;
        return textCount;
    }

    public int track(int node, int what, int how) {
        int keys = textCount;
        textCount = 0;
        if (keys == 0 || trackCount >= MAX_TRACKS) {
            return NONE;
        }
        if (!isNode(node) || !isWhat(what) || !isHow(how) || !textFits(keys, what)) {
            return NONE;
        }
        int track = trackCount;
        trackNode[track] = node;
        trackWhat[track] = what;
        trackHow[track] = how;
        trackKeys[track] = keys;
        int first = track * MAX_KEYS;
        System.arraycopy(textTimes, 0, keyTimes, first, keys);
        System.arraycopy(textNumbers, 0, keyNumbers, first * AXES, keys * AXES);
        trackCount++;
        return track;
    }

    public boolean set(int node, int what, int x, int y, int z) {
        if (!isNode(node) || !isWhat(what) || !canHave(what, x, y, z)) {
            return false;
        }
        putThree(values, placeOf(node, what), x, y, z);
        return true;
    }

    public boolean time(int t) {
        if (!isTime(t)) {
            return false;
        }
        now = t;
        for (int track = 0; track < trackCount; track++) {
            play(track);
        }
        return true;
    }

    public int value(int node, int what, int i) {
        if (!isNode(node) || !isWhat(what) || i < 0 || i >= AXES) {
            return 0;
        }
        return values[placeOf(node, what) + i];
    }

    public int count(int what) {
        switch (what) {
            case 0:
                return nodeCount;
            case 1:
                return trackCount;
            case 2:
                return keysOfAllTracks();
            case 3:
                return now;
            case 4:
                return textCount;
            default:
                return NONE;
        }
    }

    public int about(int track, int what) {
        if (track < 0 || track >= trackCount) {
            return NONE;
        }
        switch (what) {
            case 0:
                return trackNode[track];
            case 1:
                return trackWhat[track];
            case 2:
                return trackHow[track];
            case 3:
                return trackKeys[track];
            default:
                return NONE;
        }
    }

    public void clear() {
        // The text is no track: its keys stay for the next one.
        trackCount = 0;
    }

    private boolean isNode(int node) {
        return node >= 0 && node < nodeCount;
    }

    private static boolean isWhat(int what) {
        return what >= 0 && what < WHATS;
    }

    private static boolean isHow(int how) {
        return how >= BY_STEPS && how <= SMOOTH;
    }

    private static boolean isTime(int time) {
        return time >= 0 && time <= LAST_TIME;
    }

    private static boolean canHave(int what, int x, int y, int z) {
        int reach = what == MOVE ? MOVE_REACH : OTHER_REACH;
        return isWithin(x, reach) && isWithin(y, reach) && isWithin(z, reach);
    }

    private static boolean isWithin(int number, int reach) {
        return number >= -reach && number <= reach;
    }

    private boolean textFits(int keys, int what) {
        for (int k = 0; k < keys; k++) {
            int at = k * AXES;
            if (!canHave(what, textNumbers[at], textNumbers[at + 1], textNumbers[at + 2])) {
                return false;
            }
        }
        return true;
    }

    private static int placeOf(int node, int what) {
        return (node * WHATS + what) * AXES;
    }

    private static void putThree(int[] row, int at, int x, int y, int z) {
        row[at] = x;
        row[at + 1] = y;
        row[at + 2] = z;
    }

    private int keysOfAllTracks() {
        int sum = 0;
        for (int track = 0; track < trackCount; track++) {
            sum += trackKeys[track];
        }
        return sum;
    }

    private void play(int track) {
        int last = track * MAX_KEYS + trackKeys[track] - 1;
        int key = keyInForce(track * MAX_KEYS, last);
        int to = placeOf(trackNode[track], trackWhat[track]);
        boolean held = key == last || now < keyTimes[key];
        for (int i = 0; i < AXES; i++) {
            values[to + i] = held ? keyNumbers[key * AXES + i] : between(trackHow[track], key, i);
        }
    }

    // Before the first key that one is in force, so there is always one.
    private int keyInForce(int first, int last) {
        int key = first;
        while (key < last && keyTimes[key + 1] <= now) {
            key++;
        }
        return key;
    }

    // Asked only where the time is not before the key and there is a next one, which is later.
    private int between(int how, int key, int i) {
        long a = keyNumbers[key * AXES + i];
        long change = keyNumbers[(key + 1) * AXES + i] - a;
        long passed = now - keyTimes[key];
        long whole = keyTimes[key + 1] - keyTimes[key];
        if (how == STRAIGHT) {
            return (int) (a + div(change * passed, whole));
        }
        if (how == SMOOTH) {
            return (int) (a + mul(change, smoothed(div(passed * ONE, whole))));
        }
        return (int) a;
    }

    private static long smoothed(long f) {
        return mul(mul(f, f), 3 * ONE - 2 * f);
    }

    private static long mul(long a, long b) {
        return div(a * b, ONE);
    }

    private static long div(long a, long b) {
        // The times of a track grow, so b is never 0; the test makes that plain here.
        return b == 0 ? 0 : Math.floorDiv(a, b);
    }
}
