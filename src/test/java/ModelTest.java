import java.util.ArrayList;
import java.util.HashMap;
import java.util.List;
import java.util.Map;
import java.util.Random;
import java.util.TreeMap;

/**
 * Long runs of calls, answer by answer against a second writing of the document. The model is written with
 * other means on purpose (Java's own exceptions, maps, withdrawing one object at a time), so that one slip
 * of thought is not likely to be in both.
 */
public final class ModelTest {
    private static final int RUNS = 3000;
    private static final int CALLS = 512;
    // The calls of lookAtAll; together with those before it they stay within what the document speaks of.
    private static final int LOOKS = 238;
    private static final int[] ODD_INTS = {
        Integer.MIN_VALUE, Integer.MIN_VALUE + 1, -2, -1, 4, 6, 9, 10, 50, 51, 60, 61, Integer.MAX_VALUE - 1, Integer.MAX_VALUE
    };

    private static final class Trouble extends Exception {
        private static final long serialVersionUID = 1L;
        final int type;
        final int number;

        Trouble(int type, int number, Trouble cause) {
            super(cause);
            this.type = type;
            this.number = number;
        }

        Trouble(int type) {
            this(type, 0, null);
        }
    }

    private static final class Thing {
        int kind;
        int sum;
        Map<Integer, Integer> cells = new HashMap<>();
        Integer target;
        boolean onceHeld;
        Map<Integer, Integer> leases = new HashMap<>();
        Map<Integer, Integer> sequences = new HashMap<>();
    }

    private static final class Closer implements AutoCloseable {
        private final Thing bracket;
        private final int number;
        private final boolean fails;

        Closer(Thing bracket, int number, boolean fails) {
            this.bracket = bracket;
            this.number = number;
            this.fails = fails;
        }

        @Override
        public void close() throws Trouble {
            bracket.sum++;
            if (fails) {
                throw new Trouble(8, number, null);
            }
        }
    }

    private static final class Model {
        final TreeMap<Integer, Thing> things = new TreeMap<>();
        final Map<Integer, Integer> names = new HashMap<>();
        int time;
        int withdrawn;
        int failures;
        long result;
        Trouble trouble;

        static boolean in(int x, int most) {
            return 0 <= x && x <= most;
        }

        boolean held(int n) {
            if (names.containsValue(n) || !things.get(n).leases.isEmpty()) {
                return true;
            }
            return things.values().stream().anyMatch(t -> t.target != null && t.target == n);
        }

        void finish() {
            things.forEach((n, t) -> t.onceHeld |= held(n));
            boolean again = true;
            while (again) {
                again = false;
                for (Integer n : new ArrayList<>(things.descendingKeySet())) {
                    if (things.get(n).onceHeld && !held(n)) {
                        things.remove(n);
                        withdrawn++;
                        again = true;
                        break;
                    }
                }
            }
        }

        int export(int kind) {
            if (!in(kind, 3)) {
                return -1;
            }
            int n = 0;
            while (things.containsKey(n)) {
                n++;
            }
            if (n > 9) {
                return -2;
            }
            Thing thing = new Thing();
            thing.kind = kind;
            things.put(n, thing);
            finish();
            return n;
        }

        int lease(int peer, int n, int sequence, int duration) {
            if (!in(peer, 2) || !in(n, 9) || !in(duration - 1, 49)) {
                return -1;
            }
            if (!things.containsKey(n)) {
                return -3;
            }
            Thing thing = things.get(n);
            if (sequence <= thing.sequences.getOrDefault(peer, 0)) {
                return -1;
            }
            thing.sequences.put(peer, sequence);
            thing.leases.put(peer, time + duration);
            finish();
            return time + duration;
        }

        int release(int peer, int n, int sequence) {
            if (!in(peer, 2) || !in(n, 9)) {
                return -1;
            }
            if (!things.containsKey(n)) {
                return -3;
            }
            Thing thing = things.get(n);
            if (sequence <= thing.sequences.getOrDefault(peer, 0)) {
                return -1;
            }
            thing.sequences.put(peer, sequence);
            int had = thing.leases.remove(peer) == null ? 0 : 1;
            finish();
            return had;
        }

        int tick(int by) {
            if (!in(by, 60)) {
                return -1;
            }
            time += by;
            int before = things.values().stream().mapToInt(t -> t.leases.size()).sum();
            things.values().forEach(t -> t.leases.values().removeIf(till -> till <= time));
            int after = things.values().stream().mapToInt(t -> t.leases.size()).sum();
            finish();
            return before - after;
        }

        int bind(int name, int n, boolean over) {
            if (!in(name, 5) || !in(n, 9)) {
                return -1;
            }
            if (!things.containsKey(n)) {
                return -3;
            }
            if (names.containsKey(name) && !over) {
                return -1;
            }
            names.put(name, n);
            finish();
            return 0;
        }

        int unbind(int name) {
            if (names.remove(name) == null) {
                return -1;
            }
            finish();
            return 0;
        }

        int lookup(int name) {
            return names.getOrDefault(name, -1);
        }

        int call(int peer, int n, int method, int a, int b) {
            if (!in(peer, 2) || !in(n, 9) || !in(method, 5)) {
                return -1;
            }
            if (!things.containsKey(n) || !things.get(n).leases.containsKey(peer)) {
                return -3;
            }
            int answer = 0;
            try {
                result = run(n, method, a, b, 0);
                trouble = null;
            } catch (Trouble e) {
                result = 0;
                trouble = e;
                failures++;
                answer = -4;
            }
            finish();
            return answer;
        }

        int run(int n, int method, int a, int b, int depth) throws Trouble {
            if (depth == 5) {
                throw new Trouble(6, 5, null);
            }
            Thing thing = things.get(n);
            if (method == 5) {
                if (a % 2 == 0) {
                    throw new Trouble(10);
                }
                return b;
            }
            switch (thing.kind) {
                case 0: return counter(thing, method, a);
                case 1: return vault(thing, method, a, b);
                case 2: return chain(thing, method, a, b, depth);
                default: return bracket(thing, method, a, b);
            }
        }

        int counter(Thing thing, int method, int a) throws Trouble {
            int before = thing.sum;
            try {
                switch (method) {
                    case 0: return before;
                    case 1: thing.sum = a; return before;
                    case 2: thing.sum = Math.addExact(before, a); return thing.sum;
                    case 3: return before / a;
                    default: throw new Trouble(9);
                }
            } catch (ArithmeticException e) {
                throw new Trouble(1);
            }
        }

        int vault(Thing thing, int method, int a, int b) throws Trouble {
            if (method > 2) {
                throw new Trouble(9);
            }
            if (!in(a, 3)) {
                throw new Trouble(2);
            }
            int before = thing.cells.getOrDefault(a, 0);
            if (method == 0) {
                return before;
            }
            if (method == 1) {
                thing.cells.put(a, b);
                return before;
            }
            if (before + b < 0) {
                throw new Trouble(4, before + b, null);
            }
            thing.cells.put(a, before + b);
            return before + b;
        }

        int chain(Thing thing, int method, int a, int b, int depth) throws Trouble {
            if (method == 1) {
                thing.target = things.containsKey(a) ? a : null;
                return thing.sum;
            }
            if (method == 4) {
                try {
                    return use(thing, a, b, depth);
                } finally {
                    thing.sum++;
                }
            }
            if (thing.target == null) {
                throw new Trouble(3);
            }
            try {
                return run(thing.target, method == 3 ? 4 : method, a, b, depth + 1);
            } catch (Trouble e) {
                throw new Trouble(5, method, e);
            }
        }

        int use(Thing thing, int a, int b, int depth) throws Trouble {
            if (thing.target == null) {
                throw new Trouble(3);
            }
            try {
                return run(thing.target, 2, a, b, depth + 1);
            } catch (Trouble e) {
                if (e.type == 4) {
                    return run(thing.target, 1, a, b, depth + 1);
                }
                if (e.type == 1 || e.type == 2) {
                    return -1;
                }
                throw e;
            }
        }

        @SuppressWarnings("try")
        int bracket(Thing thing, int method, int a, int b) throws Trouble {
            if (method == 0) {
                return thing.sum;
            }
            if (method != 4) {
                throw new Trouble(9);
            }
            try (Closer first = new Closer(thing, 1, (a >> 2) % 2 != 0);
                    Closer second = new Closer(thing, 2, (a >> 1) % 2 != 0)) {
                if (a % 2 != 0) {
                    throw new Trouble(7, b, null);
                }
                return a + b;
            }
        }

        Trouble troubleAt(int k) {
            List<Trouble> all = new ArrayList<>();
            for (Throwable t = trouble; t != null; t = t.getCause()) {
                all.add((Trouble) t);
            }
            return k >= 0 && k < all.size() ? all.get(k) : null;
        }

        int failure(int k, int what) {
            Trouble t = troubleAt(k);
            if (t == null || !in(what, 2)) {
                return -1;
            }
            return what == 0 ? t.type : what == 1 ? t.number : t.getSuppressed().length;
        }

        Trouble suppressedAt(int k, int j) {
            Trouble t = troubleAt(k);
            return t == null || j < 0 || j >= t.getSuppressed().length ? null : (Trouble) t.getSuppressed()[j];
        }

        int object(int n, int what) {
            if (!in(n, 9) || !in(what, 5)) {
                return -1;
            }
            Thing thing = things.get(n);
            if (thing == null) {
                return what == 0 ? -1 : 0;
            }
            if (what == 0) {
                return thing.kind;
            }
            if (what == 1) {
                return held(n) ? 1 : 0;
            }
            if (what == 5) {
                return (int) names.values().stream().filter(x -> x == n).count();
            }
            return thing.leases.getOrDefault(what - 2, 0);
        }

        int count(int what) {
            return what == 0 ? time : what == 1 ? things.size() : what == 2 ? withdrawn : what == 3 ? failures : -1;
        }
    }

    private static int wrong = 0;
    private static long looked = 0;

    private final Random random;
    private final LeaseDesk desk = new LeaseDesk();
    private final Model model = new Model();
    private final List<String> told = new ArrayList<>();
    private int nextSequence = 1;
    private boolean right = true;

    private ModelTest(int seed) {
        random = new Random(seed);
    }

    private void due(String call, long got, long want) {
        looked++;
        told.add(call + " -> " + got);
        if (got != want && right) {
            right = false;
            wrong++;
            System.out.println("answered " + got + ", due is " + want + ", after " + told);
        }
    }

    private int below(int bound) {
        return random.nextInt(bound);
    }

    /** Mostly in range, since a run of refusals reaches nothing; sometimes at or past an edge. */
    private int near(int least, int most) {
        int dice = below(40);
        if (dice == 0) {
            return ODD_INTS[below(ODD_INTS.length)];
        }
        if (dice == 1) {
            return below(2) == 0 ? least - 1 : most + 1;
        }
        return least + below(most - least + 1);
    }

    private int argument() {
        int dice = below(10);
        if (dice == 0) {
            return ODD_INTS[below(ODD_INTS.length)];
        }
        if (dice == 1) {
            return random.nextInt();
        }
        return dice < 7 ? below(10) : below(30) - 15;
    }

    private int sequence() {
        int dice = below(12);
        if (dice == 0) {
            return below(nextSequence + 1);
        }
        return dice == 1 && below(30) == 0 ? argument() : nextSequence++;
    }

    private void step() {
        int dice = below(100);
        if (dice < 8) {
            int kind = below(3) == 0 ? 2 : near(0, 3);
            due("export(" + kind + ")", desk.export(kind), model.export(kind));
        } else if (dice < 24) {
            int p = near(0, 2), n = near(0, 9), s = sequence(), d = near(1, 50);
            due("lease(" + p + ", " + n + ", " + s + ", " + d + ")", desk.lease(p, n, s, d), model.lease(p, n, s, d));
        } else if (dice < 28) {
            int p = near(0, 2), n = near(0, 9), s = sequence();
            due("release(" + p + ", " + n + ", " + s + ")", desk.release(p, n, s), model.release(p, n, s));
        } else if (dice < 31) {
            int by = below(3) == 0 ? near(0, 60) : near(0, 6);
            due("tick(" + by + ")", desk.tick(by), model.tick(by));
        } else if (dice < 35) {
            int name = near(0, 5), n = near(0, 9);
            boolean over = below(2) == 0;
            due("bind(" + name + ", " + n + ", " + over + ")", desk.bind(name, n, over), model.bind(name, n, over));
        } else if (dice < 38) {
            int name = near(0, 5);
            due("unbind(" + name + ")", desk.unbind(name), model.unbind(name));
        } else if (dice < 41) {
            int name = near(0, 5);
            due("lookup(" + name + ")", desk.lookup(name), model.lookup(name));
        } else if (dice < 72) {
            int p = near(0, 2), n = near(0, 9), m = near(0, 5), a = argument(), b = argument();
            long ab = ((long) a << 32) | (b & 0xFFFFFFFFL);
            due("call(" + p + ", " + n + ", " + m + ", " + ab + ")", desk.call(p, n, m, ab), model.call(p, n, m, a, b));
        } else {
            look(dice);
        }
    }

    private void look(int dice) {
        int k = below(3) == 0 ? near(0, 6) : below(2), j = near(0, 2);
        if (dice < 75) {
            due("value()", desk.value(), model.result);
        } else if (dice < 83) {
            due("failure(" + k + ", " + j + ")", desk.failure(k, j), model.failure(k, j));
        } else if (dice < 86) {
            Trouble t = model.suppressedAt(k, j);
            due("suppressed(" + k + ", " + j + ")", desk.suppressed(k, j), t == null ? -1 : t.type);
        } else if (dice < 89) {
            Trouble t = model.suppressedAt(k, j);
            due("suppressedMessage(" + k + ", " + j + ")", desk.suppressedMessage(k, j), t == null ? -5000000000L : t.number);
        } else if (dice < 95) {
            int n = near(0, 9), what = near(0, 5);
            due("object(" + n + ", " + what + ")", desk.object(n, what), model.object(n, what));
        } else {
            int what = near(0, 3);
            due("count(" + what + ")", desk.count(what), model.count(what));
        }
    }

    private void lookAtAll() {
        due("value()", desk.value(), model.result);
        for (int k = -1; k < 8; k++) {
            for (int j = -1; j < 4; j++) {
                Trouble t = model.suppressedAt(k, j);
                due("failure(" + k + ", " + j + ")", desk.failure(k, j), model.failure(k, j));
                due("suppressed(" + k + ", " + j + ")", desk.suppressed(k, j), t == null ? -1 : t.type);
                due("suppressedMessage(" + k + ", " + j + ")", desk.suppressedMessage(k, j), t == null ? -5000000000L : t.number);
            }
        }
        for (int n = -1; n < 11; n++) {
            for (int what = -1; what < 7; what++) {
                due("object(" + n + ", " + what + ")", desk.object(n, what), model.object(n, what));
            }
        }
        for (int what = -1; what < 5; what++) {
            due("count(" + what + ")", desk.count(what), model.count(what));
        }
    }

    public static void main(String[] args) {
        for (int seed = 0; seed < RUNS && wrong < 3; seed++) {
            ModelTest run = new ModelTest(seed);
            // Half the runs are long; the others have many lengths, so that the full look falls on many states.
            boolean isLong = seed % 2 == 0;
            int calls = isLong ? CALLS : 1 + seed % (CALLS - LOOKS);
            for (int i = 0; i < calls && run.right; i++) {
                run.step();
            }
            if (!isLong) {
                run.lookAtAll();
            }
        }
        System.out.println(wrong + " runs went wrong, in " + looked + " answers");
        if (wrong != 0) {
            System.exit(1);
        }
    }
}
