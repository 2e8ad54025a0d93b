import java.util.ArrayList;
import java.util.Arrays;
import java.util.Comparator;
import java.util.List;
import java.util.NoSuchElementException;

/** Long runs of mixed calls, each answer compared with that of a second, slower reading of the document. */
public final class ModelTest {
    private static final int RUNS = 300;
    // A run of all the calls that an object is used for, or one that leaves room to ask for everything at times.
    private static final int MOST_CALLS = 512;
    private static final int FEWER_CALLS = 352;
    // How often set, move, cancel, row, first, pass come: mixed; filling up to 40; many passes.
    private static final int[][] WEIGHTS = {{30, 8, 6, 24, 4, 8}, {50, 4, 2, 40, 2, 1}, {20, 10, 10, 20, 8, 30}};

    private record Item(boolean timer, int number, int clock, long key, long time, long gap, int often) { }

    private record Kept(List<Item> items, long events, long ticks, int timers, int rows, int late, boolean first) { }

    /** The document's words, with one list for all that waits. */
    private static final class Model {
        private List<Item> items = new ArrayList<>();
        private List<Item> lastDone = new ArrayList<>();
        private List<Kept> kept = new ArrayList<>();
        private long[] nows = {-1, -1};
        private int timers = 0;
        private int rows = 0;
        private int late = 0;
        private boolean rowsFirst = true;

        Object call(String[] w) {
            switch (w[0]) {
                case "clear": return clear();
                case "set": return set(number(w[1]), Long.parseLong(w[2]), Long.parseLong(w[3]),
                        Long.parseLong(w[4]), number(w[5]));
                case "move": return move(number(w[1]), Long.parseLong(w[2]));
                case "cancel": return items.removeIf(x -> x.timer && x.number == number(w[1]));
                case "row": return row(Long.parseLong(w[1]), Long.parseLong(w[2]));
                case "first": return first(Boolean.parseBoolean(w[1]));
                case "pass": return pass(number(w[1]), Long.parseLong(w[2]));
                case "done": return done(number(w[1]), number(w[2]));
                case "told": return told(number(w[1]), number(w[2]));
                case "next": return next(number(w[1]));
                case "waiting": return waiting(number(w[1]), Long.parseLong(w[2]), Long.parseLong(w[3]),
                        Long.parseLong(w[4]));
                case "keep": return keep();
                case "back": return back(number(w[1]));
                case "forget": return forget();
                case "task": return task(Long.parseLong(w[1]), number(w[2]));
                case "load": return load(number(w[1]), number(w[2]));
                case "of": return of(number(w[1]));
                case "now": return now(number(w[1]));
                default: throw new AssertionError(w[0]);
            }
        }

        private static int number(String word) {
            return Integer.parseInt(word);
        }

        private static void want(boolean holds) {
            if (!holds) {
                throw new IllegalArgumentException();
            }
        }

        private static void wantClock(int clock) {
            want(clock == 0 || clock == 1);
        }

        private static void wantTime(long time) {
            want(0 <= time && time <= 1_000_000_000_000L);
        }

        private static void wantState(boolean holds) {
            if (!holds) {
                throw new IllegalStateException();
            }
        }

        private long count(boolean timer) {
            return items.stream().filter(x -> x.timer == timer).count();
        }

        private Item waitingTimer(int number) {
            return items.stream().filter(x -> x.timer && x.number == number).findAny()
                    .orElseThrow(NoSuchElementException::new);
        }

        private Comparator<Item> order() {
            return Comparator.comparingLong(Item::time).thenComparing(x -> x.timer == rowsFirst)
                    .thenComparingLong(Item::key).thenComparingInt(Item::number);
        }

        private int clear() {
            int waited = items.size();
            items.clear();
            lastDone.clear();
            kept.clear();
            nows = new long[] {-1, -1};
            timers = 0;
            rows = 0;
            late = 0;
            rowsFirst = true;
            return waited;
        }

        private int set(int clock, long key, long time, long gap, int often) {
            wantClock(clock);
            wantTime(time);
            want(0 <= gap && gap <= 1_000_000_000L && 0 <= often && often <= 50);
            wantState(count(true) < 40);
            items.add(new Item(true, timers, clock, key, time, gap, often));
            return timers++;
        }

        private long move(int timer, long time) {
            wantTime(time);
            Item x = waitingTimer(timer);
            items.remove(x);
            items.add(new Item(true, x.number, x.clock, x.key, time, x.gap, x.often));
            return x.time;
        }

        private int row(long key, long time) {
            wantTime(time);
            if (time <= nows[0]) {
                late++;
                return -1;
            }
            wantState(count(false) < 40);
            items.add(new Item(false, rows, 0, key, time, 0, 0));
            return rows++;
        }

        private boolean first(boolean rowsGo) {
            boolean was = rowsFirst;
            rowsFirst = rowsGo;
            return was;
        }

        private int pass(int clock, long time) {
            wantClock(clock);
            wantTime(time);
            want(time >= nows[clock]);
            nows[clock] = time;
            lastDone = new ArrayList<>();
            while (true) {
                Item x = items.stream().filter(y -> y.clock == clock && y.time <= time).min(order()).orElse(null);
                if (x == null) {
                    return lastDone.size();
                }
                items.remove(x);
                lastDone.add(x);
                if (x.timer && x.often > 0) {
                    items.add(new Item(true, timers++, clock, x.key, x.time + x.gap, x.gap, x.often - 1));
                }
            }
        }

        private long done(int i, int what) {
            want(0 <= what && what <= 4);
            if (i < 0 || i >= lastDone.size()) {
                throw new NoSuchElementException();
            }
            Item x = lastDone.get(i);
            return new long[] {x.timer ? 1 : 0, x.number, x.key, x.time, x.often}[what];
        }

        private long told(int timer, int what) {
            want(0 <= what && what <= 4);
            Item x = waitingTimer(timer);
            return new long[] {x.clock, x.key, x.time, x.gap, x.often}[what];
        }

        private int next(int clock) {
            wantClock(clock);
            return items.stream().filter(x -> x.timer && x.clock == clock).min(order()).map(Item::number).orElse(-1);
        }

        private long waiting(int clock, long key, long from, long to) {
            wantClock(clock);
            want(from <= to);
            return items.stream().filter(x -> x.timer && x.clock == clock && x.key == key)
                    .filter(x -> from <= x.time && x.time <= to).count();
        }

        private int keep() {
            wantState(kept.size() < 3);
            kept.add(new Kept(new ArrayList<>(items), nows[0], nows[1], timers, rows, late, rowsFirst));
            return kept.size() - 1;
        }

        private long back(int place) {
            want(0 <= place && place < kept.size());
            Kept k = kept.get(place);
            items = new ArrayList<>(k.items);
            nows = new long[] {k.events, k.ticks};
            timers = k.timers;
            rows = k.rows;
            late = k.late;
            rowsFirst = k.first;
            return count(true);
        }

        private int forget() {
            wantState(!kept.isEmpty());
            kept.remove(kept.size() - 1);
            return kept.size();
        }

        private static int task(long key, int tasks) {
            want(1 <= tasks && tasks <= 128);
            long group = ((key % 128) + 128) % 128;
            return (int) (group * tasks / 128);
        }

        private long load(int task, int tasks) {
            want(1 <= tasks && tasks <= 128 && 0 <= task && task < tasks);
            return items.stream().filter(x -> task(x.key, tasks) == task).count();
        }

        private long of(int what) {
            want(0 <= what && what <= 6);
            return new long[] {count(true), count(false), timers, rows, late, kept.size(), lastDone.size()}[what];
        }

        private long now(int clock) {
            wantClock(clock);
            return nows[clock];
        }
    }

    /** Numbers that look mixed and are the same in every run of the test. */
    private static final class Mixed {
        private long at;

        Mixed(long seed) {
            at = seed * 0x9E3779B97F4A7C15L + 1;
        }

        int below(int bound) {
            at ^= at << 13;
            at ^= at >>> 7;
            at ^= at << 17;
            return (int) Math.floorMod(at >>> 11, (long) bound);
        }

        long pick(long... numbers) {
            return numbers[below(numbers.length)];
        }
    }

    private static long key(Mixed m) {
        return m.below(12) == 0 ? m.pick(Long.MIN_VALUE, Long.MAX_VALUE, 1000, -1000) : m.below(6) - 3;
    }

    private static long time(Mixed m, long now) {
        if (m.below(25) == 0) {
            return m.pick(-1, 0, 1_000_000_000_000L, 1_000_000_000_001L, Long.MIN_VALUE, Long.MAX_VALUE);
        }
        return now + m.below(12) - 2;
    }

    private static int small(Mixed m, int bound) {
        if (m.below(20) == 0) {
            return (int) m.pick(-1, bound, bound + 1, Integer.MIN_VALUE, Integer.MAX_VALUE);
        }
        return m.below(bound);
    }

    private static int timer(Mixed m, int set) {
        return set == 0 || m.below(8) == 0 ? small(m, 5) : set - 1 - m.below(Math.min(set, 50));
    }

    private static long passTime(Mixed m, long now) {
        return m.below(60) == 0 ? m.pick(1_000_000_000_000L, 1_000_000_000_001L, -1) : now + m.below(9) - 1;
    }

    private static String nextCall(Mixed m, Model model, int style) {
        int clock = small(m, 2);
        long now = model.nows[clock == 1 ? 1 : 0];
        int timer = timer(m, model.timers);
        int[] weights = WEIGHTS[style];
        int roll = m.below(Arrays.stream(weights).sum() + 30);
        if ((roll -= weights[0]) < 0) {
            int often = m.below(3) == 0 ? small(m, 51) : m.below(4);
            long gap = m.below(20) == 0 ? m.pick(-1, 1_000_000_000L, 1_000_000_001L, Long.MAX_VALUE) : m.below(4);
            return "set " + clock + " " + key(m) + " " + time(m, now) + " " + gap + " " + often;
        }
        if ((roll -= weights[1]) < 0) {
            return "move " + timer + " " + time(m, now);
        }
        if ((roll -= weights[2]) < 0) {
            return "cancel " + timer;
        }
        if ((roll -= weights[3]) < 0) {
            return "row " + key(m) + " " + time(m, model.nows[0]);
        }
        if ((roll -= weights[4]) < 0) {
            return "first " + (m.below(2) == 0);
        }
        if ((roll -= weights[5]) < 0) {
            return "pass " + clock + " " + passTime(m, now);
        }
        return rareCall(m, clock, timer, now);
    }

    private static String rareCall(Mixed m, int clock, int timer, long now) {
        switch (m.below(13)) {
            case 0: return "done " + small(m, 12) + " " + small(m, 5);
            case 1: return "told " + timer + " " + small(m, 5);
            case 2: return "next " + clock;
            case 3: return "waiting " + clock + " " + key(m) + " " + time(m, now) + " " + time(m, now + 4);
            case 4: return "keep";
            case 5: return "back " + small(m, 3);
            case 6: return "forget";
            case 7: return "task " + key(m) + " " + small(m, 129);
            case 8: return "load " + small(m, 8) + " " + small(m, 12);
            case 9: return "of " + small(m, 7);
            case 10: return "now " + clock;
            case 11: return "load " + small(m, 128) + " 128";
            default: return m.below(40) == 0 ? "clear" : "next " + clock;
        }
    }

    private static String answerOf(Model model, String call) {
        try {
            return String.valueOf(model.call(call.split(" ")));
        } catch (IllegalArgumentException | IllegalStateException | NoSuchElementException e) {
            return "throws." + e.getClass().getSimpleName();
        }
    }

    /** All that can be asked, so that a wrong change is seen at the call that made it. */
    private static void askAll(Run run, Model model) {
        for (int what = 0; what < 7; what++) {
            run.due("of " + what, answerOf(model, "of " + what));
        }
        for (int clock = 0; clock < 2; clock++) {
            run.due("now " + clock, answerOf(model, "now " + clock));
            run.due("next " + clock, answerOf(model, "next " + clock));
        }
        for (int i = 0; i <= model.lastDone.size(); i++) {
            for (int what = 0; what < 5; what++) {
                run.due("done " + i + " " + what, answerOf(model, "done " + i + " " + what));
            }
        }
        for (Item x : model.items) {
            for (int what = 0; x.timer && what < 5; what++) {
                run.due("told " + x.number + " " + what, answerOf(model, "told " + x.number + " " + what));
            }
        }
    }

    private static void mixedRun(int seed, boolean asking) {
        Mixed mixed = new Mixed(seed);
        Model model = new Model();
        Run run = new Run("seed " + seed);
        int calls = asking ? FEWER_CALLS : MOST_CALLS;
        for (int i = 0; i < calls; i++) {
            String call = nextCall(mixed, model, seed % WEIGHTS.length);
            run.due(call, answerOf(model, call));
            if (asking && (i % 16 == 0 || call.startsWith("pass") && seed % 10 == 0)) {
                askAll(run, model);
            }
        }
    }

    public static void main(String[] args) {
        for (int seed = 1; seed <= RUNS; seed++) {
            mixedRun(seed, seed % 2 == 0);
        }
        Run.end();
    }
}
