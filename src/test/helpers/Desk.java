import java.util.Arrays;

/**
 * A MotionDesk that names its calls and counts them. Behind the 512th the document promises nothing,
 * so a test that asked there would prove nothing: it ends at once.
 */
final class Desk {
    private final MotionDesk desk;
    private int calls = 0;
    private String lastCall;

    Desk(int nodes) {
        desk = new MotionDesk(nodes);
        lastCall = "new MotionDesk(" + nodes + ")";
    }

    String lastCall() {
        return lastCall;
    }

    int key(int time, int x, int y, int z) {
        call("key", time, x, y, z);
        return desk.key(time, x, y, z);
    }

    int track(int node, int what, int how) {
        call("track", node, what, how);
        return desk.track(node, what, how);
    }

    boolean set(int node, int what, int x, int y, int z) {
        call("set", node, what, x, y, z);
        return desk.set(node, what, x, y, z);
    }

    boolean time(int t) {
        call("time", t);
        return desk.time(t);
    }

    int value(int node, int what, int i) {
        call("value", node, what, i);
        return desk.value(node, what, i);
    }

    int count(int what) {
        call("count", what);
        return desk.count(what);
    }

    int about(int track, int what) {
        call("about", track, what);
        return desk.about(track, what);
    }

    void clear() {
        call("clear");
        desk.clear();
    }

    private void call(String name, int... with) {
        calls++;
        if (calls > 512) {
            throw new IllegalStateException("the test makes more than 512 calls on one object");
        }
        String list = Arrays.toString(with);
        lastCall = name + "(" + list.substring(1, list.length() - 1) + ")";
    }
}
