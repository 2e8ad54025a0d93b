import java.util.Arrays;
import java.util.NoSuchElementException;

/** Timers of keys on two clocks, and rows that come with times; ../shared/DOC.md says what each call promises. */
public final class TimerRows {
    public static final long NONE = -1L;

    private static final int EVENTS = 0;
    private static final int CLOCKS = 2;
    private static final long NOW_AT_FIRST = -1L;
    private static final long HIGHEST_TIME = 1000000000000L;
    private static final long HIGHEST_GAP = 1000000000L;
    private static final int MOST_OFTEN = 50;
    private static final int MOST_WAITING = 40;
    private static final int MOST_KEPT = 3;
    private static final int GROUPS = 128;
    private static final int ABSENT = -1;

    private static final int TIMER_FACTS = 5;
    private static final int DONE_FACTS = 5;
    private static final int DONE_AT_FIRST = 64;
    // A timer set again takes the place of the one that was done, so a pass does each waiting timer
    // at most once and MOST_OFTEN times more, and each waiting row once.
    private static final int MOST_DONE = MOST_WAITING * (MOST_OFTEN + 1) + MOST_WAITING;

    private final State state;
    private final DoneLog log;
    // A place is made when it is first needed and then used again: few objects ever keep anything.
    private final State[] kept;
    private int keptCount;

    public TimerRows() {
        state = new State();
        log = new DoneLog();
        kept = new State[MOST_KEPT];
        keptCount = 0;
    }

    public int clear() {
        int waited = state.timers.count + state.rows.count;
        state.reset();
        log.count = 0;
        keptCount = 0;
        return waited;
    }

    public int set(int clock, long key, long time, long gap, int often)
            throws IllegalArgumentException, IllegalStateException {
        if (!isClock(clock) || !isTime(time) || !isGap(gap) || !isOften(often)) {
            throw new IllegalArgumentException("no such clock, time, gap or often");
        }
        if (state.timers.count >= MOST_WAITING) {
            throw new IllegalStateException("too many timers wait");
        }
        int number = state.takeTimerNumber();
        state.timers.add(number, clock, key, time, gap, often);
        return number;
    }

    public long move(int timer, long time) throws IllegalArgumentException, NoSuchElementException {
        if (!isTime(time)) {
            throw new IllegalArgumentException("no such time");
        }
        int at = state.timers.find(timer);
        if (at == ABSENT) {
            throw new NoSuchElementException("no timer of this number waits");
        }
        long before = state.timers.time[at];
        state.timers.time[at] = time;
        return before;
    }

    public boolean cancel(int timer) {
        int at = state.timers.find(timer);
        if (at == ABSENT) {
            return false;
        }
        state.timers.remove(at);
        return true;
    }

    public int row(long key, long time) throws IllegalArgumentException, IllegalStateException {
        if (!isTime(time)) {
            throw new IllegalArgumentException("no such time");
        }
        if (time <= state.now[EVENTS]) {
            state.late++;
            return (int) NONE;
        }
        if (state.rows.count >= MOST_WAITING) {
            throw new IllegalStateException("too many rows wait");
        }
        int number = state.takeRowNumber();
        state.rows.add(number, EVENTS, key, time, 0L, 0);
        return number;
    }

    public boolean first(boolean rows) {
        boolean before = state.rowsFirst;
        state.rowsFirst = rows;
        return before;
    }

    public int pass(int clock, long time) throws IllegalArgumentException {
        if (!isClock(clock) || !isTime(time) || time < state.now[clock]) {
            throw new IllegalArgumentException("no such clock or time, or a time below now");
        }
        state.now[clock] = time;
        log.count = 0;
        boolean more = true;
        for (int i = 0; more && i < MOST_DONE; i++) {
            more = doFirstDue(clock);
        }
        return log.count;
    }

    public long done(int i, int what) throws IllegalArgumentException, NoSuchElementException {
        if (what < 0 || what >= DONE_FACTS) {
            throw new IllegalArgumentException("no such fact of what was done");
        }
        if (i < 0 || i >= log.count) {
            throw new NoSuchElementException("not so many were done");
        }
        return log.fact(i, what);
    }

    public long told(int timer, int what) throws IllegalArgumentException, NoSuchElementException {
        if (what < 0 || what >= TIMER_FACTS) {
            throw new IllegalArgumentException("no such fact of a timer");
        }
        int at = state.timers.find(timer);
        if (at == ABSENT) {
            throw new NoSuchElementException("no timer of this number waits");
        }
        return state.timers.fact(at, what);
    }

    public int next(int clock) throws IllegalArgumentException {
        if (!isClock(clock)) {
            throw new IllegalArgumentException("no such clock");
        }
        int at = state.timers.earliest(clock);
        return at == ABSENT ? (int) NONE : state.timers.number[at];
    }

    public int waiting(int clock, long key, long from, long to) throws IllegalArgumentException {
        if (!isClock(clock) || from > to) {
            throw new IllegalArgumentException("no such clock, or from above to");
        }
        return state.timers.countOf(clock, key, from, to);
    }

    public int keep() throws IllegalStateException {
        if (keptCount >= MOST_KEPT) {
            throw new IllegalStateException("no place is free");
        }
        int place = keptCount;
        State copy = kept[place];
        if (copy == null) {
            copy = new State();
            kept[place] = copy;
        }
        copy.copyFrom(state);
        keptCount++;
        return place;
    }

    public int back(int place) throws IllegalArgumentException {
        State copy = keptIn(place);
        if (copy == null) {
            throw new IllegalArgumentException("nothing is kept there");
        }
        state.copyFrom(copy);
        return state.timers.count;
    }

    public int forget() throws IllegalStateException {
        if (keptCount <= 0) {
            throw new IllegalStateException("nothing is kept");
        }
        keptCount--;
        return keptCount;
    }

    public int task(long key, int tasks) throws IllegalArgumentException {
        if (!isTaskCount(tasks)) {
            throw new IllegalArgumentException("no such count of tasks");
        }
        return taskOf(key, tasks);
    }

    public int load(int task, int tasks) throws IllegalArgumentException {
        if (!isTaskCount(tasks) || task < 0 || task >= tasks) {
            throw new IllegalArgumentException("no such count of tasks, or no such task");
        }
        return state.timers.countOfTask(task, tasks) + state.rows.countOfTask(task, tasks);
    }

    public int of(int what) throws IllegalArgumentException {
        switch (what) {
            case 0:
                return state.timers.count;
            case 1:
                return state.rows.count;
            case 2:
                return state.timersSet;
            case 3:
                return state.rowsCome;
            case 4:
                return state.late;
            case 5:
                return keptCount;
            case 6:
                return log.count;
            default:
                throw new IllegalArgumentException("no such count");
        }
    }

    public long now(int clock) throws IllegalArgumentException {
        if (!isClock(clock)) {
            throw new IllegalArgumentException("no such clock");
        }
        return state.now[clock];
    }

    /** Does the first in the order that is due on the clock; answers whether there was one. */
    private boolean doFirstDue(int clock) {
        int timer = state.timers.due(clock, state.now[clock]);
        int row = state.rows.due(clock, state.now[clock]);
        if (timer == ABSENT && row == ABSENT) {
            return false;
        }
        if (state.rowGoesAhead(row, timer)) {
            doOne(state.rows, row, 0);
        } else {
            doOne(state.timers, timer, 1);
        }
        return true;
    }

    private void doOne(Waiting from, int at, int isTimer) {
        log.add(isTimer, from.number[at], from.key[at], from.time[at], from.often[at]);
        if (from.often[at] > 0) {
            from.setAgain(at, state.takeTimerNumber());
        } else {
            from.remove(at);
        }
    }

    private State keptIn(int place) {
        return place < 0 || place >= keptCount ? null : kept[place];
    }

    private static boolean isClock(int clock) {
        return clock >= 0 && clock < CLOCKS;
    }

    private static boolean isTime(long time) {
        return time >= 0 && time <= HIGHEST_TIME;
    }

    private static boolean isGap(long gap) {
        return gap >= 0 && gap <= HIGHEST_GAP;
    }

    private static boolean isOften(int often) {
        return often >= 0 && often <= MOST_OFTEN;
    }

    private static boolean isTaskCount(int tasks) {
        return tasks >= 1 && tasks <= GROUPS;
    }

    private static int taskOf(long key, int tasks) {
        // floorMod, since the group of a negative key is not negative
        int group = (int) Math.floorMod(key, (long) GROUPS);
        return group * tasks / GROUPS;
    }

    /**
     * The timers that wait, or the rows: a row is held as what is of EVENTS and never set again.
     * In no order, so that the last can fill the hole of one that goes.
     */
    private static final class Waiting {
        final int[] number = new int[MOST_WAITING];
        final int[] clock = new int[MOST_WAITING];
        final long[] key = new long[MOST_WAITING];
        final long[] time = new long[MOST_WAITING];
        final long[] gap = new long[MOST_WAITING];
        final int[] often = new int[MOST_WAITING];
        int count = 0;

        int find(int wanted) {
            for (int i = 0; i < count; i++) {
                if (number[i] == wanted) {
                    return i;
                }
            }
            return ABSENT;
        }

        void add(int newNumber, int newClock, long newKey, long newTime, long newGap, int newOften) {
            number[count] = newNumber;
            clock[count] = newClock;
            key[count] = newKey;
            time[count] = newTime;
            gap[count] = newGap;
            often[count] = newOften;
            count++;
        }

        void remove(int at) {
            int last = count - 1;
            number[at] = number[last];
            clock[at] = clock[last];
            key[at] = key[last];
            time[at] = time[last];
            gap[at] = gap[last];
            often[at] = often[last];
            count = last;
        }

        void setAgain(int at, int newNumber) {
            number[at] = newNumber;
            // May go above HIGHEST_TIME, which binds the times of calls only: then no pass reaches it.
            time[at] += gap[at];
            often[at]--;
        }

        int earliest(int wantedClock) {
            int best = ABSENT;
            for (int i = 0; i < count; i++) {
                if (clock[i] == wantedClock && (best == ABSENT || comesAhead(i, best))) {
                    best = i;
                }
            }
            return best;
        }

        int due(int wantedClock, long now) {
            int at = earliest(wantedClock);
            return at == ABSENT || time[at] > now ? ABSENT : at;
        }

        boolean comesAhead(int one, int other) {
            if (time[one] != time[other]) {
                return time[one] < time[other];
            }
            if (key[one] != key[other]) {
                return key[one] < key[other];
            }
            return number[one] < number[other];
        }

        long fact(int at, int what) {
            switch (what) {
                case 0:
                    return clock[at];
                case 1:
                    return key[at];
                case 2:
                    return time[at];
                case 3:
                    return gap[at];
                default:
                    return often[at];
            }
        }

        int countOf(int wantedClock, long wantedKey, long from, long to) {
            int found = 0;
            for (int i = 0; i < count; i++) {
                if (clock[i] == wantedClock && key[i] == wantedKey && time[i] >= from && time[i] <= to) {
                    found++;
                }
            }
            return found;
        }

        int countOfTask(int task, int tasks) {
            int found = 0;
            for (int i = 0; i < count; i++) {
                if (taskOf(key[i], tasks) == task) {
                    found++;
                }
            }
            return found;
        }

        void copyFrom(Waiting other) {
            count = other.count;
            System.arraycopy(other.number, 0, number, 0, count);
            System.arraycopy(other.clock, 0, clock, 0, count);
            System.arraycopy(other.key, 0, key, 0, count);
            System.arraycopy(other.time, 0, time, 0, count);
            System.arraycopy(other.gap, 0, gap, 0, count);
            System.arraycopy(other.often, 0, often, 0, count);
        }
    }

    /** All that is kept and comes back. */
    private static final class State {
        final Waiting timers = new Waiting();
        final Waiting rows = new Waiting();
        final long[] now = {NOW_AT_FIRST, NOW_AT_FIRST};
        int timersSet = 0;
        int rowsCome = 0;
        int late = 0;
        boolean rowsFirst = true;

        void reset() {
            timers.count = 0;
            rows.count = 0;
            Arrays.fill(now, NOW_AT_FIRST);
            timersSet = 0;
            rowsCome = 0;
            late = 0;
            rowsFirst = true;
        }

        int takeTimerNumber() {
            int number = timersSet;
            timersSet++;
            return number;
        }

        int takeRowNumber() {
            int number = rowsCome;
            rowsCome++;
            return number;
        }

        boolean rowGoesAhead(int row, int timer) {
            if (row == ABSENT || timer == ABSENT) {
                return timer == ABSENT;
            }
            if (rows.time[row] != timers.time[timer]) {
                return rows.time[row] < timers.time[timer];
            }
            return rowsFirst;
        }

        void copyFrom(State other) {
            timers.copyFrom(other.timers);
            rows.copyFrom(other.rows);
            System.arraycopy(other.now, 0, now, 0, CLOCKS);
            timersSet = other.timersSet;
            rowsCome = other.rowsCome;
            late = other.late;
            rowsFirst = other.rowsFirst;
        }
    }

    /** What the last pass did, DONE_FACTS cells each; it grows on need, since few passes do MOST_DONE. */
    private static final class DoneLog {
        long[] cells = new long[DONE_AT_FIRST * DONE_FACTS];
        int count = 0;

        void add(int isTimer, int number, long key, long time, int often) {
            int start = count * DONE_FACTS;
            if (start + DONE_FACTS > cells.length) {
                grow();
            }
            cells[start] = isTimer;
            cells[start + 1] = number;
            cells[start + 2] = key;
            cells[start + 3] = time;
            cells[start + 4] = often;
            count++;
        }

        void grow() {
            cells = Arrays.copyOf(cells, Math.min(cells.length * 2, MOST_DONE * DONE_FACTS));
        }

        long fact(int i, int what) {
            return cells[i * DONE_FACTS + what];
        }
    }
}
