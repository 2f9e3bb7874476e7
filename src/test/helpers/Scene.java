import java.util.ArrayList;
import java.util.List;
import java.util.function.Supplier;
import java.util.function.ToLongFunction;

/**
 * A state of a desk that can be made again and again, and all that a desk in it answers. Two desks that
 * answer the same here have the same nodes, time, tracks, keys of tracks and keys of the text.
 *
 * @param trackTimes times that tell the tracks' keys
 * @param textTimes times that tell the text's keys, once they are a track
 * @param keys how many keys the text has
 * @param lastTime the time of the last of them, or -1
 */
record Scene(Supplier<Desk> make, int[] trackTimes, int[] textTimes, int keys, int lastTime) {

    /** Three tracks, one of each how, set over by hand at time 12, and two keys in the text. */
    static final Scene WITH_TEXT = new Scene(Scene::deskWithText,
            new int[] {0, 4, 5, 8, 12, 15, 16, 24, 25}, new int[] {9, 10, 11, 29, 30, 31, 32}, 2, 30);

    /** The same, but for the text, which has no keys. */
    static final Scene WITHOUT_TEXT = new Scene(Scene::deskWithoutText,
            WITH_TEXT.trackTimes, WITH_TEXT.textTimes, 0, -1);

    /** 32 keys in the text, at 1 to 32. */
    static final Scene WITH_FULL_TEXT = new Scene(Scene::deskWithFullText,
            new int[] {0}, upTo(35), 32, 32);

    /** 32 tracks, each for a place of its own, and one key in the text. */
    static final Scene WITH_ALL_TRACKS = new Scene(Scene::deskWithAllTracks,
            new int[] {3}, WITH_TEXT.textTimes, 1, 10);

    /** The same, but for the text, which has no keys. */
    static final Scene WITH_ALL_TRACKS_BUT_NO_TEXT = new Scene(Scene::deskWithThirtyTwoTracks,
            new int[] {3}, WITH_TEXT.textTimes, 0, -1);

    /** The call answers what is due, and behind it all is as it was. */
    void isKeptBy(Answers answers, ToLongFunction<Desk> call, long due) {
        becomes(this, answers, call, due);
    }

    /** The call answers what is due, and behind it all is as in the other scene. */
    void becomes(Scene other, Answers answers, ToLongFunction<Desk> call, long due) {
        Desk desk = make.get();
        long got = call.applyAsLong(desk);
        String name = desk.lastCall();
        answers.due(name, got, due);
        answers.dueSame(name, allOf(desk), other.allOf(other.make.get()));
        nextKeyComes(other, answers, call);
        anotherKeyDoesNotCome(other, answers, call);
    }

    /** Asked of a new desk, since a key that comes changes what the rest would tell. */
    private void nextKeyComes(Scene other, Answers answers, ToLongFunction<Desk> call) {
        Desk desk = make.get();
        call.applyAsLong(desk);
        String behind = "behind " + desk.lastCall() + ": ";
        int due = other.keys == 32 ? MotionDesk.NONE : other.keys + 1;
        long got = desk.key(other.lastTime + 1, 1, 1, 1);
        answers.due(behind + desk.lastCall(), got, due);
    }

    /** Asked of a new desk, since a refused key might hide what another refused call has done. */
    private void anotherKeyDoesNotCome(Scene other, Answers answers, ToLongFunction<Desk> call) {
        Desk desk = make.get();
        call.applyAsLong(desk);
        String behind = "behind " + desk.lastCall() + ": ";
        long got = desk.key(other.lastTime, 1, 1, 1);
        answers.due(behind + desk.lastCall(), got, MotionDesk.NONE);
    }

    /** The desk is of no use behind this: its tracks are cleared and its text is spent. */
    private List<String> allOf(Desk desk) {
        List<String> all = new ArrayList<>();
        int nodes = counts(desk, all);
        values(desk, nodes, all);
        for (int t : trackTimes) {
            add(desk, desk.time(t) ? 1 : 0, all);
            values(desk, nodes, all);
        }
        desk.clear();
        text(desk, all);
        return all;
    }

    private static void add(Desk desk, long got, List<String> all) {
        all.add(desk.lastCall() + " answered " + got);
    }

    private static int counts(Desk desk, List<String> all) {
        for (int what = 0; what < 5; what++) {
            add(desk, desk.count(what), all);
        }
        int tracks = desk.count(1);
        for (int track = 0; track < tracks; track++) {
            for (int what = 0; what < 4; what++) {
                add(desk, desk.about(track, what), all);
            }
        }
        return desk.count(0);
    }

    private static void values(Desk desk, int nodes, List<String> all) {
        for (int k = 0; k < nodes * 9; k++) {
            add(desk, desk.value(k / 9, k / 3 % 3, k % 3), all);
        }
    }

    private void text(Desk desk, List<String> all) {
        add(desk, desk.track(0, 0, 0), all);
        for (int t : textTimes) {
            desk.time(t);
            for (int i = 0; i < 3; i++) {
                all.add("as a track at " + t + ", number " + i + ": " + desk.value(0, 0, i));
            }
        }
    }

    private static int[] upTo(int last) {
        int[] times = new int[last + 1];
        for (int t = 0; t <= last; t++) {
            times[t] = t;
        }
        return times;
    }

    private static Desk deskWithoutText() {
        Desk desk = new Desk(3);
        desk.key(5, 100, 200, 300);
        desk.key(25, 1000, -2000, 5000);
        desk.track(0, 0, 1);
        desk.key(0, 1, 2, 3);
        desk.key(8, 4, 5, 6);
        desk.key(16, 7, 8, 9);
        desk.track(1, 1, 0);
        desk.key(4, 0, 65536, -65536);
        desk.key(24, 65536, 0, 1048576);
        desk.track(2, 2, 2);
        desk.time(12);
        // By hand all is otherwise than the tracks set it, so that a time that ought not to be told shows.
        for (int k = 0; k < 9; k++) {
            desk.set(k / 3, k % 3, 10 * k + 11, 10 * k + 12, 10 * k + 13);
        }
        return desk;
    }

    private static Desk deskWithText() {
        Desk desk = deskWithoutText();
        desk.key(10, 41, 42, 43);
        desk.key(30, 51, 52, 53);
        return desk;
    }

    private static Desk deskWithFullText() {
        Desk desk = new Desk(2);
        for (int k = 1; k <= 32; k++) {
            desk.key(k, k, 100 + k, 200 + k);
        }
        return desk;
    }

    private static Desk deskWithThirtyTwoTracks() {
        Desk desk = new Desk(11);
        for (int k = 0; k < 32; k++) {
            desk.key(k, 3 * k + 1, 3 * k + 2, 3 * k + 3);
            desk.track(k / 3, k % 3, k % 3);
        }
        return desk;
    }

    private static Desk deskWithAllTracks() {
        Desk desk = deskWithThirtyTwoTracks();
        desk.key(10, 41, 42, 43);
        return desk;
    }
}
