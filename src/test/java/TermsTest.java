/** Each sentence of the document's opening and of 'Terms' that names a boundary; a run bears its words. */
public final class TermsTest {
    private static final long LOW = Run.LOW;
    private static final long HIGH = Run.HIGH;
    private static final int MIN = Run.MIN;
    private static final int MAX = Run.MAX;
    private static final long LAST_TIME = Run.LAST_TIME;
    private static final long CUT = 1L << 32;

    public static void main(String[] args) {
        Run.all(TermsTest.class);
    }

    static void timersAreNumbered() {
        new Run("'TIMERS are numbered 0, 1, .. as they are set, by calls or in a PASS'").due("of 2", 0)
                .due("set 0 1 5 1 1", 0).due("set 1 1 5 0 0", 1).argument("set 0 1 -1 0 0").due("cancel 1", true)
                .due("set 1 1 5 0 0", 2).due("row 1 9", 0).due("pass 0 5", 1).due("told 3 2", 6)
                .due("set 0 1 9 0 0", 4).due("of 2", 5);
        new Run("'TIMERS are numbered': one pass, many numbers").due("set 0 1 1 1 50", 0).due("pass 0 60", 51)
                .dueDone(50, 1, 50, 1, 51, 0).due("set 0 1 1 1 50", 51).due("pass 0 60", 51)
                .dueDone(50, 1, 101, 1, 51, 0).due("set 0 1 1 1 50", 102);
    }

    static void fortyTimersWaitAtMost() {
        Run run = new Run("'40 WAIT at most' of TIMERS").numbered(39, "set 0 1 5 0 0", 0).due("set 0 1 5 0 0", 39)
                .due("of 0", 40).state("set 0 1 5 0 0").due("of 0", 40);
        run.due("cancel 0", true).due("set 0 1 5 0 0", 40).state("set 0 1 5 0 0").due("pass 0 5", 40)
                .numbered(40, "set 0 1 5 0 0", 41).state("set 0 1 5 0 0");
        new Run("'40 WAIT at most' of TIMERS: of both clocks together").numbered(20, "set 0 1 5 0 0", 0)
                .numbered(20, "set 1 1 5 0 0", 20).state("set 0 1 5 0 0").state("set 1 1 5 0 0");
        new Run("'40 WAIT at most' of TIMERS: rows do not count").numbered(40, "row 1 5", 0)
                .numbered(40, "set 0 1 5 0 0", 0).state("set 0 1 5 0 0");
        new Run("'40 WAIT at most' of TIMERS: one set again takes the place of the one that was done")
                .numbered(40, "set 1 1 5 2 1", 0).due("pass 1 5", 40).due("of 0", 40).state("set 1 1 5 0 0")
                .due("next 1", 40).due("pass 1 7", 40).due("of 0", 0).due("set 1 1 5 0 0", 80);
    }

    static void theLastOf512Calls() {
        Run run = new Run("'at most 512 calls'").numbered(40, "set 0 1 1 1 50", 0).numbered(40, "row 1 51", 0)
                .due("keep", 0);
        while (run.left() > 3) {
            run.due("pass 0 51", 2080).due("back 0", 40);
        }
        run.due("pass 0 51", 2080).dueEach("of", 0, 0);
        Run late = new Run("'at most 512 calls': late ones").due("pass 0 0", 0);
        while (late.left() > 1) {
            late.due("row 1 0", -1);
        }
        late.due("of 4", 510);
        Run numbers = new Run("'at most 512 calls': numbers");
        for (int i = 0; i < 255; i++) {
            numbers.due("set 1 1 0 0 50", 51 * i).due("pass 1 0", 51);
        }
        numbers.due("of 2", 51 * 255).due("set 1 1 0 0 50", 51 * 255);
        Run.check("calls that are left", numbers.left(), 0);
    }

    static void clock() {
        new Run("'a CLOCK (0 EVENTS, 1 TICKS)'").due("set 0 1 5 0 0", 0).due("set 1 1 6 0 0", 1)
                .dueEach("next", 0, 1).dueEach("now", -1, -1).due("waiting 0 1 5 5", 1).due("waiting 1 1 6 6", 1)
                .due("told 0 0", 0).due("told 1 0", 1)
                .argumentEach("set % 1 5 0 0", -1, 2, MIN, MAX).argumentEach("pass % 5", -1, 2, MIN, MAX)
                .argumentEach("next %", -1, 2, MIN, MAX).argumentEach("waiting % 1 0 9", -1, 2, MIN, MAX)
                .argumentEach("now %", -1, 2, MIN, MAX).due("pass 0 9", 1).due("pass 1 9", 1);
    }

    static void key() {
        Run run = new Run("'a KEY (any number)'");
        long[] keys = {LOW, -CUT, -1, 0, 1, CUT, CUT + 1, HIGH};
        for (int i = 0; i < keys.length; i++) {
            run.due("set 0 " + keys[i] + " 5 0 0", i).due("row " + keys[i] + " 5", i);
        }
        for (int i = 0; i < keys.length; i++) {
            run.due("told " + i + " 1", keys[i]).due("waiting 0 " + keys[i] + " 5 5", 1);
        }
        run.due("pass 0 5", 16);
        for (int i = 0; i < keys.length; i++) {
            run.dueDone(i, 0, i, keys[i], 5, 0).dueDone(8 + i, 1, i, keys[i], 5, 0);
        }
    }

    static void time() {
        new Run("'a TIME 0 .. 1000000000000'").due("set 0 1 0 0 0", 0).due("told 0 2", 0)
                .due("set 1 1 1000000000000 0 0", 1).due("told 1 2", LAST_TIME).due("move 0 1000000000000", 0)
                .due("move 0 0", LAST_TIME).due("row 1 0", 0).due("row 1 1000000000000", 1)
                .argumentEach("set 0 1 % 0 0", -1, LAST_TIME + 1, LOW, HIGH)
                .argumentEach("move 0 %", -1, LAST_TIME + 1, LOW, HIGH)
                .argumentEach("row 1 %", -1, LAST_TIME + 1, LOW, HIGH)
                .argumentEach("pass 0 %", -1, LAST_TIME + 1, LOW, HIGH)
                .argumentEach("pass 1 %", -1, LAST_TIME + 1, LOW, HIGH)
                .due("pass 0 0", 2).due("pass 0 1000000000000", 1).dueDone(0, 0, 1, 1, LAST_TIME, 0)
                .due("pass 1 1000000000000", 1).dueDone(0, 1, 1, 1, LAST_TIME, 0)
                .argumentEach("pass 0 %", -1, LAST_TIME + 1).argumentEach("pass 1 %", -1, LAST_TIME + 1)
                .argumentEach("row 1 %", -1, LAST_TIME + 1);
    }

    static void gap() {
        new Run("'a GAP 0 .. 1000000000'").due("set 0 1 5 0 1", 0).due("told 0 3", 0)
                .due("set 0 1 5 1000000000 1", 1).due("told 1 3", 1000000000)
                .argumentEach("set 0 1 5 % 1", -1, 1000000001, LOW, HIGH, CUT)
                .argumentEach("set 0 1 5 % 0", -1, 1000000001).due("pass 0 5", 3)
                .dueEach("told 3", 0, 1, 1000000005, 1000000000, 0);
    }

    static void often() {
        new Run("'how OFTEN it is set again, 0 .. 50'").due("set 0 1 5 1 0", 0).due("told 0 4", 0)
                .due("set 1 1 5 1 50", 1).due("told 1 4", 50).argumentEach("set 0 1 5 1 %", -1, 51, MIN, MAX)
                .due("pass 0 1000", 1).due("pass 1 1000", 51).dueEach("of", 0, 0, 52)
                .dueDone(0, 1, 1, 1, 5, 50).dueDone(49, 1, 50, 1, 54, 1).dueDone(50, 1, 51, 1, 55, 0);
    }

    static void rowsAreNumbered() {
        new Run("'ROWS are numbered 0, 1, .. as they come'").due("of 3", 0).due("row 1 5", 0).due("set 0 1 9 0 0", 0)
                .due("row 1 0", 1).argument("row 1 -1").due("row 1 5", 2).due("pass 0 0", 1).due("row 1 0", -1)
                .due("row 1 5", 3).due("of 3", 4).due("pass 0 5", 3).dueOrder("r0", "r2", "r3").due("row 1 6", 4);
    }

    static void fortyRowsWaitAtMost() {
        new Run("'40 WAIT at most' of ROWS").numbered(39, "row 1 5", 0).due("row 1 5", 39).due("of 1", 40)
                .state("row 1 5").due("pass 0 4", 0).state("row 1 5").due("pass 0 5", 40)
                .numbered(40, "row 1 6", 40).state("row 1 6");
        new Run("'40 WAIT at most' of ROWS: timers do not count").numbered(40, "set 0 1 5 0 0", 0)
                .numbered(40, "row 1 5", 0).state("row 1 5").due("cancel 0", true).state("row 1 5");
    }

    static void aRowIsOfEvents() {
        new Run("'each has a KEY and a TIME, and is of EVENTS'").due("row -7 0", 0).due("pass 1 0", 0)
                .due("pass 1 1000000000000", 0).due("of 1", 1).due("pass 0 0", 1).dueDone(0, 0, 0, -7, 0, 0)
                .due("of 1", 0);
    }

    static void nowAtFirst() {
        new Run("'NOW of each CLOCK is -1 at first'").dueEach("now", -1, -1).due("row 1 0", 0).due("of 4", 0)
                .due("pass 0 0", 1).dueEach("now", 0, -1).due("pass 1 0", 0).dueEach("now", 0, 0);
    }

    static void orderByTime() {
        new Run("'by TIME'").due("set 0 -9 " + (CUT + 1) + " 0 0", 0).due("set 0 9 3 0 0", 1)
                .due("set 0 0 1000000000000 0 0", 2).due("set 0 " + HIGH + " 0 0 0", 3).due("set 0 0 2 0 0", 4)
                .due("row " + HIGH + " 2", 0).due("row " + LOW + " " + CUT, 1).due("row 0 4", 2).due("next 0", 3)
                .due("pass 0 1000000000000", 8).dueOrder("t3", "r0", "t4", "t1", "r2", "r1", "t0", "t2");
    }

    static void rowsAheadOfTimers() {
        new Run("'of the same TIME ROWS ahead of TIMERS, if ROWS go FIRST'").due("set 0 " + LOW + " 5 0 1", 0)
                .due("row " + HIGH + " 5", 0).due("set 0 0 4 0 0", 1).due("row 0 6", 1).due("pass 0 6", 5)
                .dueOrder("t1", "r0", "t0", "t2", "r1");
    }

    static void rowsBehindTimers() {
        new Run("'else behind them'").due("first false", true).due("row " + LOW + " 5", 0)
                .due("set 0 " + HIGH + " 5 0 1", 0).due("row 0 4", 1).due("set 0 0 6 0 0", 1).due("pass 0 6", 5)
                .dueOrder("r1", "t0", "t2", "r0", "t1");
    }

    static void orderByKey() {
        new Run("'of two TIMERS .. by KEY'").due("set 1 " + HIGH + " 5 0 0", 0).due("set 1 1 5 0 0", 1)
                .due("set 1 " + CUT + " 5 0 0", 2).due("set 1 " + LOW + " 5 0 0", 3).due("set 1 -1 5 0 0", 4)
                .due("set 1 0 5 0 0", 5).due("next 1", 3).due("pass 1 5", 6)
                .dueOrder("t3", "t4", "t5", "t1", "t2", "t0");
        new Run("'or two ROWS, by KEY'").due("row " + HIGH + " 5", 0).due("row 1 5", 1).due("row " + CUT + " 5", 2)
                .due("row " + LOW + " 5", 3).due("row -1 5", 4).due("row 0 5", 5).due("pass 0 5", 6)
                .dueOrder("r3", "r4", "r5", "r1", "r2", "r0");
    }

    static void orderByNumber() {
        new Run("'then by number' of two TIMERS").numbered(12, "set 0 1 5 0 0", 0).due("cancel 0", true)
                .due("cancel 4", true).due("move 2 9", 5).due("move 2 5", 9).due("next 0", 1).due("pass 0 5", 10)
                .dueOrder("t1", "t2", "t3", "t5", "t6", "t7", "t8", "t9", "t10", "t11");
        new Run("'then by number' of two ROWS").due("row 2 4", 0).numbered(11, "row 1 5", 1).due("pass 0 4", 1)
                .due("pass 0 5", 11).dueOrder("r1", "r2", "r3", "r4", "r5", "r6", "r7", "r8", "r9", "r10", "r11");
        new Run("'then by number' of one set again").due("set 0 1 5 0 2", 0).due("set 0 1 5 0 1", 1)
                .due("pass 0 5", 5).dueOrder("t0", "t1", "t2", "t3", "t4");
    }

    static void nowBecomesATime() {
        new Run("'its NOW becomes a TIME'").due("pass 0 7", 0).dueEach("now", 7, -1).due("pass 1 3", 0)
                .dueEach("now", 7, 3).due("pass 0 7", 0).dueEach("now", 7, 3).due("set 0 1 2 0 0", 0)
                .due("pass 0 8", 1).dueEach("now", 8, 3);
    }

    static void notAboveNow() {
        new Run("'has a TIME that is not above NOW'").due("set 0 1 6 0 0", 0).due("row 1 6", 0).due("pass 0 5", 0)
                .dueEach("of", 1, 1).due("pass 0 6", 2).dueEach("of", 0, 0).due("set 0 1 5 0 0", 1)
                .due("set 0 1 7 0 0", 2).due("pass 0 6", 1).dueOrder("t1").due("pass 0 6", 0);
        new Run("'something that WAITS on it'").due("set 0 1 6 0 0", 0).due("set 1 1 6 0 0", 1).due("row 1 6", 0)
                .due("pass 1 6", 1).dueOrder("t1").dueEach("of", 1, 1).due("pass 0 6", 2).dueOrder("r0", "t0");
    }

    static void itWaitsNoMore() {
        new Run("'it WAITS no more'").due("set 0 1 6 0 0", 0).due("set 0 2 6 1 1", 1).due("row 1 6", 0)
                .due("pass 0 6", 3).elementEach("told % 0", 0, 1).elementEach("move % 9", 0, 1)
                .due("cancel 0", false).due("cancel 1", false).dueEach("of", 1, 0).due("told 2 1", 2)
                .due("load 0 1", 1).due("waiting 0 1 6 6", 0);
    }

    static void oftenAboveZero() {
        new Run("'a TIMER whose OFTEN is above 0 is set again'").due("set 0 1 6 9 0", 0).due("set 0 2 6 9 1", 1)
                .due("pass 0 6", 2).dueEach("of", 1, 0, 3).due("told 2 1", 2).due("pass 0 15", 1)
                .dueEach("of", 0, 0, 3);
    }

    static void setAgain() {
        new Run("'the next number, the same CLOCK, KEY, GAP, its TIME and GAP together, OFTEN less by 1'")
                .due("set 1 -5 3 4 50", 0).due("set 0 6 2 0 0", 1).due("pass 1 6", 1)
                .dueEach("told 2", 1, -5, 7, 4, 49).due("pass 1 7", 1).dueEach("told 3", 1, -5, 11, 4, 48);
        new Run("'its TIME and GAP together': its own TIME, not NOW").due("pass 0 100", 0).due("set 0 1 0 1000 2", 0)
                .due("pass 0 200", 1).due("told 1 2", 1000).due("move 1 50", 1000).due("pass 0 200", 1)
                .due("told 2 2", 1050);
    }

    static void setAgainAboveAllTimes() {
        long above = LAST_TIME + 1000000000;
        new Run("'its TIME and GAP together': above 1000000000000").due("set 0 1 1000000000000 1000000000 50", 0)
                .due("set 1 2 1000000000000 1 1", 1).due("row 1 1000000000000", 0)
                .due("pass 0 1000000000000", 2).dueEach("told 2", 0, 1, above, 1000000000, 49).due("next 0", 2)
                .due("waiting 0 1 " + above + " " + above, 1).due("waiting 0 1 0 " + (above - 1), 0)
                .due("pass 0 1000000000000", 0).due("of 0", 2).due("load 1 128", 1)
                .due("pass 1 1000000000000", 1).due("told 3 2", LAST_TIME + 1).due("next 1", 3)
                .due("pass 1 1000000000000", 0).due("move 3 1000000000000", LAST_TIME + 1)
                .due("pass 1 1000000000000", 1).due("keep", 0).due("cancel 2", true).due("back 0", 1)
                .argument("move 2 " + above).due("move 2 0", above).due("pass 0 1000000000000", 50);
    }

    static void doneInTheSamePass() {
        new Run("'it is DONE in the same PASS, if it is due'").due("set 0 1 4 2 1", 0).due("pass 0 5", 1)
                .due("cancel 1", true).due("set 0 1 3 2 1", 2).due("pass 0 5", 2).dueOrder("t2", "t3").due("of 0", 0);
        new Run("'it is DONE in the same PASS': among the others").due("set 0 1 1 2 2", 0).due("set 0 0 3 0 0", 1)
                .due("set 0 2 3 0 0", 2).due("row 9 3", 0).due("row 9 4", 1).due("pass 0 5", 7)
                .dueOrder("t0", "r0", "t1", "t3", "t2", "r1", "t4");
        new Run("'it is DONE in the same PASS': no GAP").due("set 0 1 5 0 50", 0).due("pass 0 4", 0)
                .due("pass 0 5", 51).dueDone(50, 1, 50, 1, 5, 0).element("done 51 0").due("of 0", 0);
    }

    static void theGroup() {
        new Run("'KEY modulo 128, 0 .. 127'").due("task 0 128", 0).due("task 127 128", 127).due("task 128 128", 0)
                .due("task 255 128", 127).due("task -1 128", 127).due("task -127 128", 1).due("task -128 128", 0)
                .due("task -129 128", 127).due("task " + LOW + " 128", 0).due("task " + (LOW + 1) + " 128", 1)
                .due("task " + HIGH + " 128", 127).due("task " + (HIGH - 127) + " 128", 0)
                .due("task " + (CUT - 1) + " 128", 127).due("task " + (CUT + 5) + " 128", 5)
                .due("task " + MIN + " 128", 0).due("task " + MAX + " 128", 127);
    }

    static void theTask() {
        Run run = new Run("'GROUP times as many tasks as there are, divided by 128, cut'");
        for (int tasks = 1; tasks <= 128; tasks++) {
            int task = 0;
            for (int group = 0; group < 128; group++) {
                // the first group of the next task is the first that is not below (task + 1) * 128 / tasks
                task += group * tasks >= (task + 1) * 128 ? 1 : 0;
                run.due("task " + group + " " + tasks, task).due("task " + (group - 128) + " " + tasks, task);
            }
            run.due("task 127 " + tasks, tasks - 1);
        }
        new Run("'cut'").due("task 42 3", 0).due("task 43 3", 1).due("task 85 3", 1).due("task 86 3", 2)
                .due("task 63 2", 0).due("task 64 2", 1).due("task 1 127", 0).due("task 2 127", 1);
    }

    static void ofSeveralTheFirst() {
        new Run("'Of several the first one in this order'").numbered(40, "set 0 1 5 0 0", 0)
                .numbered(40, "row 1 5", 0).argument("set 2 1 5 0 0").argument("set 0 1 -1 0 0")
                .argument("set 0 1 5 -1 0").argument("set 0 1 5 0 51").argument("row 1 -1")
                .argument("row 1 1000000000001").argument("move 40 -1").argument("move -1 1000000000001")
                .argument("told 40 5").argument("told -1 -1").argument("done 0 5").argument("done -1 -1")
                .state("set 0 1 5 0 0").state("row 1 5").element("move 40 5").element("told 40 4")
                .element("done 0 4");
    }

    static void aRefusedCallChangesNothing() {
        Run run = new Run("'A call that throws changes nothing'").due("set 0 1 5 3 4", 0).due("set 1 2 6 0 1", 1)
                .due("row 3 7", 0).due("row 4 9", 1).due("keep", 0).due("first false", true).due("pass 0 5", 1)
                .due("row 1 1", -1).due("pass 1 6", 2).due("keep", 1).due("set 0 9 1000000000000 1 1", 4);
        refuseArguments(run);
        run.elementEach("move % 5", -1, 0, 1, 3, 5, MIN, MAX).elementEach("told % 0", -1, 0, 1, 3, 5, MIN, MAX)
                .elementEach("done % 0", -1, 2, MIN, MAX).due("forget", 1).due("forget", 0).state("forget")
                .due("keep", 0).due("keep", 1).due("keep", 2).state("keep");
        run.numbered(38, "set 0 1 5 0 0", 5).state("set 1 1 5 1 1").numbered(38, "row 1 8", 2).state("row 1 8");
        refuseArguments(run);
    }

    private static void refuseArguments(Run run) {
        run.argument("set 2 1 5 0 0").argument("set 0 1 -1 0 0").argument("set 0 1 5 -1 0")
                .argument("set 0 1 5 0 51").argument("move 2 -1").argument("move 4 1000000000001")
                .argument("row 1 -1").argument("row 1 1000000000001").argument("pass 0 4").argument("pass 1 5")
                .argument("pass 2 9").argument("pass 0 1000000000001").argument("done 0 5").argument("told 2 5")
                .argument("next 2").argument("waiting 2 1 0 9").argument("waiting 0 1 9 8").argument("back -1")
                .argument("back 3").argument("task 1 0").argument("task 1 129").argument("load 2 2")
                .argument("load 0 129").argument("of 7").argument("now 2");
    }
}
