import java.math.BigInteger;
import java.util.ArrayList;
import java.util.HashMap;
import java.util.List;
import java.util.Map;
import java.util.Random;

/**
 * Many runs of some 510 calls, of ordinary, edge and wrong arguments, beside a slow model written from
 * the document with numbers that cannot overflow. The seeds are fixed, so every run is the same each time.
 */
public final class RunsAgainstModelTest {
    private static final Answers ANSWERS = new Answers();
    private static final int[] ODD = {
        Integer.MIN_VALUE, Integer.MIN_VALUE + 1, -4194305, -4194304, -1048577, -1048576, -1, 0, 1, 2, 3, 4, 5,
        31, 32, 33, 47, 48, 49, 65536, 1000000, 1000001, 1048576, 1048577, 4194304, 4194305,
        477218588, 1431655765, Integer.MAX_VALUE - 1, Integer.MAX_VALUE
    };

    private record Key(int time, int[] numbers) { }

    private record Track(int node, int what, int how, List<Key> keys) { }

    /** The document, word for word. */
    private static final class Model {
        final int nodes;
        final Map<String, int[]> have = new HashMap<>();
        List<Track> tracks = new ArrayList<>();
        List<Key> text = new ArrayList<>();
        int time = 0;

        Model(int nodes) {
            this.nodes = nodes < 1 ? 1 : nodes > 48 ? 48 : nodes;
            for (int n = 0; n < this.nodes; n++) {
                have.put(n + "/0", new int[] {0, 0, 0});
                have.put(n + "/1", new int[] {0, 0, 0});
                have.put(n + "/2", new int[] {65536, 65536, 65536});
            }
        }

        static boolean among(long least, long number, long most) {
            return least <= number && number <= most;
        }

        static boolean fit(int what, int[] numbers) {
            long reach = what == 0 ? 4194304 : 1048576;
            for (int n : numbers) {
                if (!among(-reach, n, reach)) {
                    return false;
                }
            }
            return true;
        }

        long key(int t, int[] numbers) {
            if (!among(0, t, 1000000) || !fit(0, numbers) || text.size() == 32) {
                return -1;
            }
            if (!text.isEmpty() && t <= text.get(text.size() - 1).time()) {
                return -1;
            }
            text.add(new Key(t, numbers));
            return text.size();
        }

        long track(int node, int what, int how) {
            List<Key> keys = text;
            text = new ArrayList<>();
            if (keys.isEmpty() || !have.containsKey(node + "/" + what) || !among(0, how, 2) || tracks.size() == 32) {
                return -1;
            }
            for (Key k : keys) {
                if (!fit(what, k.numbers())) {
                    return -1;
                }
            }
            tracks.add(new Track(node, what, how, keys));
            return tracks.size() - 1;
        }

        long set(int node, int what, int[] numbers) {
            if (!have.containsKey(node + "/" + what) || !fit(what, numbers)) {
                return 0;
            }
            have.put(node + "/" + what, numbers);
            return 1;
        }

        long time(int t) {
            if (!among(0, t, 1000000)) {
                return 0;
            }
            time = t;
            for (Track track : tracks) {
                int[] now = new int[3];
                for (int i = 0; i < 3; i++) {
                    now[i] = at(track, t, i);
                }
                have.put(track.node() + "/" + track.what(), now);
            }
            return 1;
        }

        static int at(Track track, int t, int i) {
            List<Key> keys = track.keys();
            if (t < keys.get(0).time()) {
                return keys.get(0).numbers()[i];
            }
            for (int k = 0; k + 1 < keys.size(); k++) {
                long s = keys.get(k).time();
                long e = keys.get(k + 1).time();
                if (s <= t && t < e) {
                    return between(track.how(), keys.get(k).numbers()[i], keys.get(k + 1).numbers()[i], t - s, e - s);
                }
            }
            return keys.get(keys.size() - 1).numbers()[i];
        }

        static int between(int how, long a, long b, long passed, long whole) {
            BigInteger from = BigInteger.valueOf(a);
            BigInteger change = BigInteger.valueOf(b - a);
            BigInteger p = BigInteger.valueOf(passed);
            BigInteger w = BigInteger.valueOf(whole);
            if (how == 0) {
                return (int) a;
            }
            if (how == 1) {
                return from.add(div(change.multiply(p), w)).intValueExact();
            }
            BigInteger f = div(p.multiply(BigInteger.valueOf(65536)), w);
            BigInteger g = mul(mul(f, f), BigInteger.valueOf(196608).subtract(f.add(f)));
            return from.add(mul(change, g)).intValueExact();
        }

        static BigInteger mul(BigInteger a, BigInteger b) {
            return div(a.multiply(b), BigInteger.valueOf(65536));
        }

        /** For b above 0: mod is never below 0 there, so what is left divides without a rest. */
        static BigInteger div(BigInteger a, BigInteger b) {
            return a.subtract(a.mod(b)).divide(b);
        }

        long value(int node, int what, int i) {
            int[] numbers = have.get(node + "/" + what);
            return numbers == null || !among(0, i, 2) ? 0 : numbers[i];
        }

        long count(int what) {
            int keys = 0;
            for (Track t : tracks) {
                keys += t.keys().size();
            }
            long[] counts = {nodes, tracks.size(), keys, time, text.size()};
            return among(0, what, 4) ? counts[what] : -1;
        }

        long about(int track, int what) {
            if (!among(0, track, tracks.size() - 1) || !among(0, what, 3)) {
                return -1;
            }
            Track t = tracks.get(track);
            return new long[] {t.node(), t.what(), t.how(), t.keys().size()}[what];
        }
    }

    private final Random random;
    private final MotionDesk desk;
    private final Model model;
    private final String name;
    /** How often an argument is an odd one, in percent. */
    private final int odds;
    private final int reach;
    private final int stride;
    private int calls = 0;

    private RunsAgainstModelTest(int seed) {
        random = new Random(seed);
        odds = seed % 4 == 0 ? 30 : seed % 4 == 1 ? 0 : 3;
        int nodes = seed % 3 == 0 ? odd() : 1 + random.nextInt(4);
        reach = new int[] {10, 1000, 1048576, 4194304}[random.nextInt(4)];
        stride = new int[] {2, 50, 1000, 60000}[random.nextInt(4)];
        desk = new MotionDesk(nodes);
        model = new Model(nodes);
        name = "seed " + seed + ", new MotionDesk(" + nodes + ")";
    }

    private int odd() {
        return ODD[random.nextInt(ODD.length)];
    }

    private int below(int bound) {
        return random.nextInt(100) < odds ? odd() : random.nextInt(bound);
    }

    private int number() {
        return random.nextInt(100) < odds ? odd() : random.nextInt(2 * reach + 1) - reach;
    }

    private int[] three() {
        return new int[] {number(), number(), number()};
    }

    private int nextKeyTime() {
        int before = model.text.isEmpty() ? -1 : model.text.get(model.text.size() - 1).time();
        return random.nextInt(100) < odds ? odd() : before + 1 + random.nextInt(stride);
    }

    /** Mostly near some track's keys: at one, one beside it, or anywhere before the last. */
    private int someTime() {
        if (model.tracks.isEmpty() || random.nextInt(100) < odds) {
            return odd();
        }
        List<Key> keys = model.tracks.get(random.nextInt(model.tracks.size())).keys();
        if (random.nextInt(3) == 0) {
            return random.nextInt(keys.get(keys.size() - 1).time() + 2);
        }
        return keys.get(random.nextInt(keys.size())).time() + random.nextInt(3) - 1;
    }

    private void call() {
        int kind = random.nextInt(100);
        if (kind < 45) {
            int t = nextKeyTime();
            int[] n = three();
            due("key", desk.key(t, n[0], n[1], n[2]), model.key(t, n));
        } else if (kind < 60) {
            int node = below(model.nodes);
            int what = below(3);
            int how = below(3);
            due("track", desk.track(node, what, how), model.track(node, what, how));
        } else if (kind < 65) {
            int node = below(model.nodes);
            int what = below(3);
            int[] n = three();
            due("set", desk.set(node, what, n[0], n[1], n[2]) ? 1 : 0, model.set(node, what, n));
        } else if (kind < 80) {
            int t = someTime();
            due("time(" + t + ")", desk.time(t) ? 1 : 0, model.time(t));
            lookAtATrack();
        } else if (kind == 80 && random.nextInt(3) == 0) {
            desk.clear();
            model.tracks = new ArrayList<>();
            calls++;
        } else {
            ask();
        }
    }

    private void due(String call, long got, long want) {
        calls++;
        ANSWERS.due(name + ", call " + calls + ": " + call, got, want);
    }

    /** All three numbers that a track has set, or that one behind it has. */
    private void lookAtATrack() {
        if (model.tracks.isEmpty()) {
            return;
        }
        Track track = model.tracks.get(random.nextInt(model.tracks.size()));
        for (int i = 0; i < 3; i++) {
            due("value of a track", desk.value(track.node(), track.what(), i),
                    model.value(track.node(), track.what(), i));
        }
    }

    private void ask() {
        int what = below(5);
        switch (random.nextInt(3)) {
            case 0 -> {
                int node = below(model.nodes);
                int i = below(3);
                due("value", desk.value(node, what, i), model.value(node, what, i));
            }
            case 1 -> due("count(" + what + ")", desk.count(what), model.count(what));
            default -> {
                int track = below(model.tracks.size() + 1);
                due("about", desk.about(track, what), model.about(track, what));
            }
        }
    }

    public static void main(String[] args) {
        for (int seed = 0; seed < 600; seed++) {
            RunsAgainstModelTest run = new RunsAgainstModelTest(seed);
            // A step makes up to four calls, and the document speaks of no more than 512.
            while (run.calls <= 512 - 4) {
                run.call();
            }
        }
        ANSWERS.end();
    }
}
