/** Each promise of the document, sentence by sentence: ordinary inputs, the boundaries that it names, wrong inputs. */
public final class PromiseTest {
    private static final long LOW = Run.LOW;
    private static final long HIGH = Run.HIGH;
    private static final int MIN = Run.MIN;
    private static final int MAX = Run.MAX;
    private static final long LAST_TIME = Run.LAST_TIME;

    public static void main(String[] args) {
        Run.all(PromiseTest.class);
    }

    static void p01NothingWaits() {
        Run.check("NONE", TimerRows.NONE, -1);
        new Run("1 'Nothing WAITS'").dueEach("of", 0, 0, 0, 0, 0).dueEach("next", -1, -1).due("load 0 1", 0)
                .element("told 0 0").element("move 0 0").due("cancel 0", false).due("clear", 0)
                .due("pass 0 1000000000000", 0).due("pass 1 1000000000000", 0);
    }

    static void p01NothingIsKept() {
        new Run("1 'Nothing .. is KEPT'").due("of 5", 0).argumentEach("back %", -1, 0, 1, 2, 3).state("forget");
    }

    static void p01NothingWasDone() {
        new Run("1 'Nothing .. was DONE'").due("of 6", 0).elementEach("done % 0", -1, 0, 1);
    }

    static void p01RowsGoFirst() {
        new Run("1 'ROWS go FIRST'").due("set 0 1 5 0 0", 0).due("row 9 5", 0).due("pass 0 5", 2)
                .dueOrder("r0", "t0").due("first true", true);
    }

    static void p01ObjectsAreApart() {
        Run other = new Run("1 another object is as at first");
        new Run("1 one object").due("set 0 1 1 1 1", 0).due("row 1 1", 0).due("pass 0 1", 2).due("row 1 1", -1)
                .due("keep", 0).due("first false", true);
        other.dueEach("of", 0, 0, 0, 0, 0, 0, 0).dueEach("now", -1, -1).due("first true", true);
    }

    /** A run after which nothing is as at first. */
    private static Run unlikeAtFirst(String name) {
        return new Run(name).due("set 0 1 5 2 3", 0).due("set 1 1 9 2 3", 1).due("row 3 5", 0).due("row 3 1", 1)
                .due("first false", true).due("keep", 0).due("keep", 1).due("pass 1 2", 0).due("row 4 9", 2)
                .due("pass 0 5", 3).due("row 1 5", -1).dueEach("of", 2, 1, 3, 3, 1, 2, 3).dueEach("now", 5, 2);
    }

    static void p02AllAsAtFirst() {
        unlikeAtFirst("2 'All as at first'").due("clear", 3).dueEach("of", 0, 0, 0, 0, 0, 0, 0)
                .dueEach("now", -1, -1).dueEach("next", -1, -1).due("load 0 1", 0).due("first true", true);
    }

    static void p02NothingWaits() {
        unlikeAtFirst("2 'All as at first': nothing WAITS").due("clear", 3).elementEach("told % 0", 0, 1, 2)
                .due("cancel 1", false).due("pass 0 1000000000000", 0).due("pass 1 1000000000000", 0);
    }

    static void p02NothingIsKept() {
        unlikeAtFirst("2 'All as at first': nothing is KEPT").due("clear", 3).argumentEach("back %", 0, 1)
                .state("forget").due("keep", 0).argument("back 1").due("back 0", 0).due("keep", 1).due("keep", 2);
    }

    static void p02NothingWasDone() {
        unlikeAtFirst("2 'All as at first': nothing was DONE").due("clear", 3).element("done 0 0");
    }

    static void p02NumbersNowsAndFirst() {
        unlikeAtFirst("2 'All as at first': numbers, NOWS, ROWS go FIRST").due("clear", 3).due("row 4 0", 0)
                .due("set 0 4 0 0 0", 0).due("set 1 4 0 0 0", 1).due("pass 0 0", 2).dueOrder("r0", "t0")
                .due("pass 1 0", 1);
    }

    static void p02HowManyWaited() {
        new Run("2 'how many TIMERS and ROWS waited'").due("clear", 0).due("set 1 1 5 0 0", 0).due("clear", 1)
                .due("row 1 5", 0).due("clear", 1).due("pass 0 5", 0).due("row 1 5", -1).due("clear", 0)
                .numbered(40, "set 0 1 5 0 1", 0).numbered(40, "row 1 5", 0).due("keep", 0).due("clear", 80)
                .due("clear", 0).numbered(40, "set 0 1 5 0 0", 0).numbered(40, "row 1 5", 0).due("pass 0 5", 80)
                .due("clear", 0);
    }

    static void p03Set() {
        new Run("3 'A TIMER is set: its number'").due("set 0 7 3 4 5", 0).due("set 1 -7 6 0 0", 1)
                .dueEach("told 0", 0, 7, 3, 4, 5).dueEach("told 1", 1, -7, 6, 0, 0).dueEach("of", 2, 0, 2);
    }

    static void p03TimeNotAboveNow() {
        new Run("3 'it WAITS, also if its TIME is not above NOW'").due("pass 0 10", 0).due("set 0 1 11 0 0", 0)
                .due("set 0 1 10 0 0", 1).due("set 0 1 9 0 0", 2).due("set 0 1 0 0 0", 3).due("of 0", 4)
                .due("of 6", 0).due("next 0", 3).due("told 3 2", 0).due("pass 0 10", 3).dueOrder("t3", "t2", "t1");
        new Run("3 'not above NOW': the last TIME").due("pass 1 1000000000000", 0).due("set 1 1 0 0 0", 0)
                .due("set 1 1 1000000000000 0 0", 1).due("pass 1 1000000000000", 2);
    }

    static void p03Arguments() {
        new Run("3 'IllegalArgument'").due("set 0 1 0 0 0", 0).due("set 1 1 1000000000000 1000000000 50", 1)
                .argumentEach("set % 1 0 0 0", -1, 2, MIN, MAX)
                .argumentEach("set 0 1 % 0 0", -1, LAST_TIME + 1, LOW, HIGH)
                .argumentEach("set 0 1 0 % 0", -1, 1000000001, LOW, HIGH)
                .argumentEach("set 0 1 0 0 %", -1, 51, MIN, MAX).due("set 0 1 0 0 0", 2);
    }

    static void p03FortyWait() {
        new Run("3 'IllegalState: 40 WAIT'").numbered(40, "set 1 1 5 0 0", 0).state("set 1 1 5 0 0")
                .state("set 0 1 0 0 0").due("cancel 39", true).due("set 0 2 5 0 0", 40).state("set 1 1 5 0 0")
                .due("pass 0 5", 1).due("set 0 2 5 0 0", 41).state("set 1 1 5 0 0").due("clear", 40)
                .due("set 1 1 5 0 0", 0);
        new Run("3 'IllegalState: 40 WAIT' that came back").numbered(39, "set 1 1 5 0 0", 0).due("keep", 0)
                .due("set 1 1 5 0 0", 39).due("keep", 1).due("back 0", 39).due("set 1 1 5 0 0", 39)
                .state("set 1 1 5 0 0").due("clear", 40).due("keep", 0).numbered(40, "set 1 1 5 0 0", 0)
                .due("back 0", 0).due("set 1 1 5 0 0", 0);
    }

    static void p04AnotherTime() {
        new Run("4 'A TIMER that WAITS gets another TIME'").due("set 0 1 20 3 4", 0).due("set 1 2 6 0 0", 1)
                .due("move 0 5", 20).dueEach("told 0", 0, 1, 5, 3, 4).dueEach("told 1", 1, 2, 6, 0, 0)
                .dueEach("of", 2, 0, 2, 0, 0, 0, 0).due("move 0 0", 5).due("told 0 2", 0)
                .due("move 0 1000000000000", 0).due("told 0 2", LAST_TIME);
        new Run("4 'gets another TIME': not above NOW").due("pass 0 8", 0).due("set 0 1 9 2 1", 0).due("move 0 8", 9)
                .dueEach("of", 1, 0, 1, 0, 0, 0, 0).due("pass 0 8", 1).due("told 1 2", 10).due("move 1 0", 10)
                .due("pass 0 8", 1).dueDone(0, 1, 1, 1, 0, 0);
    }

    static void p04WhatItWas() {
        new Run("4 'what it was'").due("set 0 1 0 1000000000 1", 0).due("move 0 0", 0).due("move 0 7", 0)
                .due("move 0 7", 7).due("move 0 1000000000000", 7).due("pass 0 1000000000000", 1)
                .due("move 1 1000000000000", 1001000000000L).due("move 1 0", LAST_TIME);
    }

    static void p04Arguments() {
        new Run("4 'IllegalArgument'").due("set 0 1 5 0 0", 0).argumentEach("move 0 %", -1, LAST_TIME + 1, LOW, HIGH)
                .due("move 0 0", 5).due("move 0 1000000000000", 0);
    }

    static void p04NoneOfThisNumber() {
        new Run("4 'NoSuchElement: none of this number WAITS'").elementEach("move % 5", -1, 0, MIN, MAX)
                .due("set 0 1 5 1 1", 0).due("set 0 1 9 0 0", 1).due("row 1 9", 0).due("row 1 9", 1)
                .due("row 1 9", 2).elementEach("move % 5", -1, 2, MIN, MAX).due("cancel 1", true)
                .element("move 1 5").due("pass 0 5", 1).element("move 0 5").due("move 2 7", 6).due("clear", 4)
                .element("move 2 5");
    }

    static void p05WaitsNoMore() {
        new Run("5 'A TIMER WAITS no more'").due("set 0 1 5 1 1", 0).due("set 1 2 6 2 2", 1).due("set 0 3 7 3 3", 2)
                .due("row 1 9", 0).due("cancel 0", true).element("told 0 0").dueEach("told 1", 1, 2, 6, 2, 2)
                .dueEach("told 2", 0, 3, 7, 3, 3).dueEach("of", 2, 1, 3, 1).due("next 0", 2).due("cancel 2", true)
                .due("next 0", -1).due("pass 0 50", 1).dueOrder("r0").due("cancel 1", true).due("of 0", 0)
                .due("pass 1 50", 0);
    }

    static void p05WhetherItDid() {
        new Run("5 'whether it did'").due("cancel 0", false).due("cancel -1", false).due("set 0 1 5 1 1", 0)
                .due("row 1 9", 0).due("row 1 9", 1).due("row 1 9", 2).due("cancel 1", false).due("cancel 2", false)
                .due("cancel -1", false).due("cancel " + MIN, false).due("cancel " + MAX, false)
                .dueEach("of", 1, 3).due("pass 0 5", 1).due("cancel 0", false).due("cancel 1", true)
                .due("cancel 1", false).dueEach("of", 0, 3, 2).due("set 0 1 5 1 1", 2).due("clear", 4)
                .due("cancel 2", false);
    }

    static void p05OneOfForty() {
        Run run = new Run("5 cancel each of 40").numbered(40, "set 0 1 5 0 0", 0);
        for (int i = 39; i >= 0; i--) {
            run.due("cancel " + i, true).due("cancel " + i, false).due("of 0", i);
        }
        run.due("next 0", -1).numbered(40, "set 0 1 5 0 0", 40).state("set 0 1 5 0 0");
    }

    static void p06ARowComes() {
        new Run("6 'A ROW comes: its number'").due("row -4 0", 0).due("row 4 1000000000000", 1)
                .dueEach("of", 0, 2, 0, 2, 0).due("pass 0 1000000000000", 2).dueDone(0, 0, 0, -4, 0, 0)
                .dueDone(1, 0, 1, 4, LAST_TIME, 0);
    }

    static void p06Late() {
        new Run("6 'NONE: it is LATE, its TIME is not above NOW of EVENTS'").due("pass 1 100", 0)
                .due("row 1 0", 0).due("pass 0 0", 1).due("row 1 0", -1).due("row 1 1", 1).due("pass 0 10", 1)
                .due("row 1 9", -1).due("row 1 10", -1).due("row 1 11", 2).due("of 4", 3)
                .due("pass 0 1000000000000", 1).due("row 1 1000000000000", -1).due("of 4", 4);
    }

    static void p06LateHasNoNumber() {
        new Run("6 'it has no number, and does not WAIT'").due("pass 0 10", 0).due("row 1 10", -1).due("row 1 3", -1)
                .dueEach("of", 0, 0, 0, 0, 2, 0, 0).due("load 0 1", 0).due("pass 0 10", 0).due("row 1 11", 0)
                .due("clear", 1);
    }

    static void p06LateIsNeverTooMany() {
        new Run("6 'that is never too many'").due("pass 0 4", 0).numbered(40, "row 1 5", 0).due("row 1 4", -1)
                .due("row 1 0", -1).dueEach("of", 0, 40, 0, 40, 2).state("row 1 5").argument("row 1 -1");
    }

    static void p06Arguments() {
        new Run("6 'IllegalArgument'").argumentEach("row 1 %", -1, LAST_TIME + 1, LOW, HIGH).due("row 1 0", 0)
                .due("row 1 1000000000000", 1).due("pass 0 5", 1)
                .argumentEach("row 1 %", -1, LAST_TIME + 1, LOW, HIGH).due("of 4", 0);
    }

    static void p06FortyWait() {
        new Run("6 'IllegalState: 40 WAIT'").numbered(40, "row 1 5", 0).state("row 1 5").state("row 2 1000000000000")
                .state("row 1 0").due("pass 0 4", 0).state("row 1 5").due("pass 0 5", 40).due("row 1 6", 40);
        new Run("6 'IllegalState: 40 WAIT' that came back").numbered(39, "row 1 5", 0).due("keep", 0)
                .due("row 1 5", 39).state("row 1 5").due("back 0", 0).due("row 1 5", 39).state("row 1 5")
                .due("clear", 40).due("row 1 5", 0);
    }

    static void p07WhatItWas() {
        new Run("7 'what it was'").due("first true", true).due("first true", true).due("first false", true)
                .due("first false", false).due("first true", false).due("first true", true);
    }

    static void p07WhetherRowsGoFirst() {
        new Run("7 'Whether ROWS go FIRST'").due("set 0 1 5 0 0", 0).due("row 1 5", 0).due("first false", true)
                .due("next 0", 0).due("keep", 0).due("pass 0 5", 2).dueOrder("t0", "r0").due("back 0", 1)
                .due("first true", false).due("next 0", 0).due("pass 0 5", 2).dueOrder("r0", "t0")
                .due("back 0", 1).due("first true", false).due("first false", true).due("pass 0 5", 2)
                .dueOrder("t0", "r0");
    }

    static void p08HowMany() {
        new Run("8 'how many TIMERS and ROWS were DONE'").due("pass 0 0", 0).due("set 0 1 5 0 0", 0)
                .due("pass 0 5", 1).due("row 1 6", 0).due("pass 0 6", 1).due("set 0 1 7 1 1", 1).due("row 1 7", 1)
                .due("row 1 8", 2).due("row 1 9", 3).due("pass 0 8", 4).due("pass 0 8", 0).due("pass 0 9", 1)
                .due("pass 1 1000000000000", 0);
    }

    static void p08Arguments() {
        new Run("8 'IllegalArgument'").argumentEach("pass % 5", -1, 2, MIN, MAX)
                .argumentEach("pass 0 %", -1, LAST_TIME + 1, LOW, HIGH)
                .argumentEach("pass 1 %", -1, LAST_TIME + 1, LOW, HIGH).due("pass 0 0", 0)
                .due("pass 1 1000000000000", 0).argument("pass 1 1000000000001");
    }

    static void p08BelowNow() {
        new Run("8 'also a TIME below NOW'").due("pass 0 5", 0).argumentEach("pass 0 %", 4, 0, -1).due("pass 0 5", 0)
                .due("pass 1 4", 0).argument("pass 1 3").due("pass 1 4", 0).due("pass 0 6", 0).argument("pass 0 5")
                .dueEach("now", 6, 4).due("pass 0 1000000000000", 0).argument("pass 0 999999999999")
                .due("pass 0 1000000000000", 0).due("pass 1 5", 0).due("clear", 0).due("pass 0 0", 0);
        new Run("8 'below NOW' that came back").due("pass 0 3", 0).due("keep", 0).due("pass 0 8", 0)
                .argument("pass 0 7").due("back 0", 0).argument("pass 0 2").due("pass 0 3", 0).due("pass 0 7", 0);
    }

    static void p08TheMostInOnePass() {
        Run run = new Run("8 the most that one pass can do");
        for (int i = 0; i < 40; i++) {
            run.due("set 0 " + i + " 1 1 50", i).due("row " + i + " 51", i);
        }
        run.due("keep", 0);
        for (int round = 0; round < 2; round++) {
            run.due("pass 0 60", 2080).dueEach("of", 0, 0, 2040, 40, 0, 1, 2080);
            for (int i = 0; i < 2000; i++) {
                run.dueDone(i, 1, i, i % 40, 1 + i / 40, 50 - i / 40);
            }
            for (int i = 0; i < 40; i++) {
                run.dueDone(2000 + i, 0, i, i, 51, 0).dueDone(2040 + i, 1, 2000 + i, i, 51, 0);
            }
            run.elementEach("done % 0", -1, 2080).due("back 0", 40);
        }
    }

    static void p09FromNought() {
        new Run("9 'the i-th that was DONE .. from 0'").due("set 0 1 5 0 0", 0).due("set 0 2 5 0 0", 1)
                .due("set 0 3 5 0 0", 2).due("pass 0 5", 3).due("done 0 1", 0).due("done 1 1", 1).due("done 2 1", 2)
                .elementEach("done % 1", -1, 3, MIN, MAX);
    }

    static void p09InTheLastPass() {
        new Run("9 'in the last PASS'").due("set 0 1 5 0 0", 0).due("set 1 2 6 0 0", 1).due("set 0 3 7 0 0", 2)
                .due("set 0 4 7 0 0", 3).due("pass 0 7", 3).due("pass 1 6", 1).dueOrder("t1").element("done 1 0")
                .argument("pass 1 5").due("set 1 1 1 0 0", 4).due("move 4 2", 1).due("cancel 4", true).due("keep", 0)
                .due("forget", 0).due("first false", true).due("row 1 7", -1).dueDone(0, 1, 1, 2, 6, 0)
                .due("pass 0 7", 0).element("done 0 0");
    }

    static void p09What() {
        new Run("9 'what = 0 whether it is a TIMER (1), a ROW (0), 1 its number, 2 KEY, 3 TIME, 4 OFTEN'")
                .due("set 0 8 9 0 0", 0).due("set 0 -7 4 2 3", 1).due("row 1 4", 0).due("row " + LOW + " 5", 1)
                .due("pass 0 5", 3).dueDone(0, 0, 0, 1, 4, 0).dueDone(1, 1, 1, -7, 4, 3).dueDone(2, 0, 1, LOW, 5, 0);
        new Run("9 '4 OFTEN': of each one that is set again").due("set 1 1 0 0 2", 0).due("pass 1 0", 3)
                .due("done 0 4", 2).due("done 1 4", 1).due("done 2 4", 0);
        new Run("9 '3 TIME': of one that was moved").due("set 1 1 9 0 0", 0).due("move 0 3", 9).due("pass 1 5", 1)
                .due("done 0 3", 3);
    }

    static void p09OftenOfARow() {
        // a place that a timer's OFTEN stood in before, and a row behind a timer with an OFTEN
        new Run("9 'of a ROW 0'").due("set 0 1 1 0 50", 0).due("pass 0 1", 51).due("set 0 1 2 9 7", 51)
                .due("row 1 2", 0).due("row 1 3", 1).due("pass 0 3", 3).dueDone(0, 0, 0, 1, 2, 0)
                .dueDone(1, 1, 51, 1, 2, 7).dueDone(2, 0, 1, 1, 3, 0);
    }

    static void p09WhatArguments() {
        new Run("9 'IllegalArgument: what'").argumentEach("done 0 %", -1, 5, MIN, MAX).due("row 1 5", 0)
                .due("pass 0 5", 1).argumentEach("done 0 %", -1, 5, MIN, MAX).due("done 0 0", 0).due("done 0 4", 0)
                .argumentEach("done 1 %", -1, 5).argumentEach("done -1 %", -1, 5);
    }

    static void p09NoSuchElement() {
        // 858993460 times 5, cut to 32 bits, is 4
        new Run("9 'NoSuchElement'").elementEach("done % 0", -1, 0, MIN, MAX).element("done 0 4").due("row 1 5", 0)
                .due("pass 0 4", 0).element("done 0 0").due("pass 0 5", 1)
                .elementEach("done % 0", -1, 1, 858993460, -858993459, MIN, MAX).due("clear", 0).element("done 0 0");
    }

    static void p10What() {
        new Run("10 'what = 0 its CLOCK, 1 KEY, 2 TIME, 3 GAP, 4 OFTEN'").due("set 1 -9 8 7 6", 0)
                .due("set 0 " + HIGH + " 1000000000000 1000000000 50", 1).due("set 0 " + LOW + " 0 0 0", 2)
                .dueEach("told 0", 1, -9, 8, 7, 6).dueEach("told 1", 0, HIGH, LAST_TIME, 1000000000, 50)
                .dueEach("told 2", 0, LOW, 0, 0, 0);
    }

    static void p10WhatArguments() {
        new Run("10 'IllegalArgument: what'").argumentEach("told 0 %", -1, 5, MIN, MAX).due("set 1 -9 8 7 6", 0)
                .argumentEach("told 0 %", -1, 5, MIN, MAX).argumentEach("told 1 %", -1, 5)
                .argumentEach("told -1 %", -1, 5).due("told 0 0", 1).due("told 0 4", 6);
    }

    static void p10NoneOfThisNumber() {
        new Run("10 'NoSuchElement: none of this number WAITS'").elementEach("told % 0", -1, 0, MIN, MAX)
                .due("set 0 1 5 1 1", 0).due("set 1 1 5 0 0", 1).due("row 1 9", 0).due("row 1 9", 1)
                .due("row 1 9", 2).elementEach("told % 4", -1, 2, MIN, MAX).due("cancel 1", true)
                .element("told 1 0").due("pass 0 5", 1).element("told 0 0").due("told 2 2", 6).due("clear", 4)
                .element("told 2 0");
    }

    static void p11TheFirstTimer() {
        new Run("11 'The number of the first TIMER in THE ORDER'").due("set 0 5 9 0 0", 0).due("set 0 5 9 0 0", 1)
                .due("next 0", 0).due("set 0 4 9 0 0", 2).due("next 0", 2).due("set 0 " + LOW + " 9 0 0", 3)
                .due("next 0", 3).due("set 0 " + HIGH + " 8 0 0", 4).due("next 0", 4).due("move 4 10", 8)
                .due("next 0", 3).due("cancel 3", true).due("next 0", 2).due("move 1 8", 9).due("next 0", 1)
                .due("move 0 8", 9).due("next 0", 0).due("pass 0 9", 3).due("next 0", 4);
    }

    static void p11WaitsOnAClock() {
        new Run("11 'that WAITS on a CLOCK'").due("set 1 1 1 0 0", 0).dueEach("next", -1, 0).due("set 0 1 9 0 0", 1)
                .dueEach("next", 1, 0).due("pass 1 1", 1).dueEach("next", 1, -1).due("cancel 1", true)
                .dueEach("next", -1, -1);
        new Run("11 'that WAITS': also if not above NOW").due("pass 0 9", 0).due("set 0 1 9 0 0", 0).due("next 0", 0)
                .due("set 0 1 2 0 0", 1).due("next 0", 1);
    }

    static void p11None() {
        new Run("11 'NONE'").dueEach("next", -1, -1).due("row 1 1", 0).dueEach("next", -1, -1)
                .due("set 0 1 1 0 0", 0).dueEach("next", 0, -1).due("pass 0 1", 2).dueEach("next", -1, -1);
    }

    static void p11Arguments() {
        new Run("11 'IllegalArgument'").argumentEach("next %", -1, 2, MIN, MAX).due("set 0 1 1 0 0", 0)
                .argumentEach("next %", -1, 2, MIN, MAX);
    }

    static void p12FromTo() {
        new Run("12 'with TIMES from .. to'").due("waiting 0 1 0 10", 0).due("set 0 1 5 0 0", 0)
                .due("set 0 1 7 0 0", 1).due("waiting 0 1 5 7", 2).due("waiting 0 1 5 6", 1)
                .due("waiting 0 1 6 7", 1).due("waiting 0 1 6 6", 0).due("waiting 0 1 5 5", 1)
                .due("waiting 0 1 7 7", 1).due("waiting 0 1 0 4", 0).due("waiting 0 1 8 1000000000000", 0)
                .due("waiting 0 1 " + LOW + " " + HIGH, 2).due("waiting 0 1 " + LOW + " -1", 0)
                .due("waiting 0 1 " + LOW + " " + LOW, 0).due("waiting 0 1 " + HIGH + " " + HIGH, 0)
                .due("waiting 0 1 -1 5", 1).due("waiting 0 1 7 1000000000001", 1).due("set 0 1 0 0 0", 2)
                .due("set 0 1 1000000000000 0 0", 3).due("waiting 0 1 0 1000000000000", 4)
                .due("waiting 0 1 1 999999999999", 2);
    }

    static void p12OfAKeyOnAClock() {
        new Run("12 'How many TIMERS of a KEY WAIT on a CLOCK'").due("set 0 1 5 0 0", 0).due("set 0 2 5 0 0", 1)
                .due("set 1 1 5 0 0", 2).due("set 1 1 5 0 0", 3).due("set 0 129 5 0 0", 4)
                .due("set 0 4294967297 5 0 0", 5).due("set 0 -1 5 0 0", 6).due("row 1 5", 0).due("row 3 5", 1)
                .due("waiting 0 1 0 9", 1).due("waiting 1 1 0 9", 2).due("waiting 0 2 0 9", 1)
                .due("waiting 1 2 0 9", 0).due("waiting 0 3 0 9", 0).due("waiting 0 129 0 9", 1)
                .due("waiting 0 -1 0 9", 1).due("waiting 0 127 0 9", 0).due("cancel 2", true)
                .due("waiting 1 1 0 9", 1).due("pass 1 5", 1).due("waiting 1 1 0 9", 0);
        new Run("12 'How many': as many as there may be").numbered(40, "set 1 1 5 0 0", 0).due("waiting 1 1 5 5", 40);
    }

    static void p12Clock() {
        new Run("12 'IllegalArgument: clock'").argumentEach("waiting % 1 0 9", -1, 2, MIN, MAX)
                .due("set 0 1 5 0 0", 0).argumentEach("waiting % 1 0 9", -1, 2, MIN, MAX);
    }

    static void p12FromAboveTo() {
        new Run("12 'or from above to'").due("set 0 1 5 0 0", 0).argument("waiting 0 1 6 5")
                .argument("waiting 0 1 5 4").argument("waiting 0 1 0 -1").argument("waiting 0 1 " + HIGH + " " + LOW)
                .argument("waiting 0 1 " + (LOW + 1) + " " + LOW).argument("waiting 1 9 1000000000000 0")
                .due("waiting 0 1 5 5", 1);
    }

    static void p13InWhichPlace() {
        new Run("13 'in which place, from 0'").due("keep", 0).due("of 5", 1).due("set 0 1 5 0 0", 0).due("keep", 1)
                .due("of 5", 2).due("keep", 2).due("of 5", 3).due("forget", 2).due("cancel 0", true).due("keep", 2)
                .due("back 2", 0).due("back 1", 1).due("back 0", 0).due("forget", 2).due("forget", 1)
                .due("forget", 0).due("keep", 0);
    }

    static void p13WhatWaits() {
        new Run("13 'What WAITS'").due("set 0 1 5 1 3", 0).due("set 1 2 6 7 8", 1).due("row 1 5", 0).due("keep", 0)
                .due("move 0 6", 5).due("cancel 1", true).due("set 1 8 8 8 8", 2).due("row 8 8", 1)
                .due("pass 0 9", 6).due("back 0", 2).dueEach("told 0", 0, 1, 5, 1, 3).dueEach("told 1", 1, 2, 6, 7, 8)
                .element("told 2 0").dueEach("of", 2, 1).due("pass 0 5", 2).dueDone(0, 0, 0, 1, 5, 0)
                .dueDone(1, 1, 0, 1, 5, 3);
        new Run("13 'What WAITS': nothing").due("keep", 0).due("set 0 1 5 0 0", 0).due("row 1 5", 0).due("back 0", 0)
                .dueEach("of", 0, 0).due("pass 0 5", 0);
    }

    static void p13AsMuchAsMayWait() {
        new Run("13 'What WAITS': as much as there may be").numbered(40, "set 0 1 1 0 0", 0)
                .numbered(40, "row 1 1", 0).due("keep", 0).due("pass 0 1", 80).due("keep", 1).due("back 0", 40)
                .state("set 0 1 1 0 0").state("row 1 2").due("pass 0 1", 80).due("back 1", 0)
                .due("set 0 1 1 0 0", 40).due("row 1 2", 40);
    }

    static void p13AsMuchAsMayWaitComesBack() {
        Run run = new Run("13 'What WAITS': each of 40 and 40");
        for (int i = 0; i < 40; i++) {
            run.due("set 1 " + (100 - i) + " " + i + " " + 3 * i + " " + i, i).due("row " + (50 - i) + " 6", i);
        }
        run.due("keep", 0).due("pass 0 6", 40).due("pass 1 0", 1).due("cancel 39", true).due("back 0", 40);
        for (int i = 0; i < 40; i++) {
            run.dueEach("told " + i, 1, 100 - i, i, 3 * i, i);
        }
        run.due("pass 0 6", 40);
        for (int i = 0; i < 40; i++) {
            run.dueDone(i, 0, 39 - i, 11 + i, 6, 0);
        }
    }

    static void p13BothNows() {
        new Run("13 'both NOWS'").due("keep", 0).due("pass 0 3", 0).due("pass 1 4", 0).due("keep", 1)
                .due("pass 0 5", 0).due("pass 1 6", 0).due("back 1", 0).dueEach("now", 3, 4).due("row 1 3", -1)
                .due("row 1 4", 0).due("back 0", 0).dueEach("now", -1, -1).due("row 1 0", 0);
    }

    static void p13Numbers() {
        new Run("13 'numbers'").due("set 0 1 5 0 0", 0).due("row 1 5", 0).due("row 1 5", 1).due("keep", 0)
                .due("set 0 1 5 0 0", 1).due("row 1 5", 2).due("back 0", 1).dueEach("of", 1, 2, 1, 2)
                .due("set 0 1 5 0 0", 1).due("row 1 5", 2);
    }

    static void p13LateOnes() {
        new Run("13 'LATE ones that were counted'").due("keep", 0).due("pass 0 5", 0).due("row 1 5", -1)
                .due("keep", 1).due("row 1 5", -1).due("row 1 5", -1).due("of 4", 3).due("back 1", 0).due("of 4", 1)
                .due("row 1 5", -1).due("of 4", 2).due("back 0", 0).due("of 4", 0);
    }

    static void p13WhetherRowsGoFirst() {
        new Run("13 'whether ROWS go FIRST'").due("keep", 0).due("first false", true).due("keep", 1)
                .due("back 0", 0).due("first true", true).due("back 1", 0).due("first false", false)
                .due("first true", false).due("back 1", 0).due("first false", false);
    }

    static void p13ThreeAreKept() {
        new Run("13 'IllegalState: three are KEPT'").due("keep", 0).due("keep", 1).due("keep", 2).state("keep")
                .due("set 0 1 5 0 0", 0).state("keep").due("back 2", 0).state("keep").due("forget", 2)
                .due("keep", 2).state("keep").due("clear", 0).due("keep", 0);
    }

    static void p14AllComesBack() {
        new Run("14 'All that is KEPT in a place comes back'").due("set 0 1 5 0 0", 0).due("set 1 2 6 7 8", 1)
                .due("row 3 9", 0).due("pass 0 5", 1).due("pass 1 3", 0).due("row 1 1", -1).due("first false", true)
                .due("keep", 0).due("first true", false).due("set 0 1 20 0 0", 2).due("row 4 21", 1)
                .due("row 4 2", -1).due("pass 0 30", 3).due("pass 1 12", 1).dueEach("of", 1, 0, 4, 2, 2, 1, 1)
                .due("back 0", 1).dueEach("of", 1, 1, 2, 1, 1, 1, 1).dueEach("now", 5, 3)
                .dueEach("told 1", 1, 2, 6, 7, 8).elementEach("told % 0", 2, 3).due("first false", false)
                .due("pass 0 9", 1).dueDone(0, 0, 0, 3, 9, 0);
    }

    static void p14EachPlace() {
        new Run("14 'in a place'").due("keep", 0).due("set 0 1 5 0 0", 0).due("keep", 1).due("set 1 2 6 0 0", 1)
                .due("row 1 1", 0).due("keep", 2).due("back 0", 0).dueEach("of", 0, 0, 0, 0).due("back 2", 2)
                .dueEach("of", 2, 1, 2, 1).due("back 1", 1).dueEach("of", 1, 0, 1, 0);
    }

    static void p14NumbersGoOnFromThere() {
        new Run("14 'numbers go on from there'").due("set 0 1 5 1 1", 0).due("row 1 9", 0).due("keep", 0)
                .due("pass 0 6", 2).due("row 1 8", 1).due("set 0 1 9 0 0", 2).due("back 0", 1)
                .due("set 0 7 9 0 0", 1).due("told 1 1", 7).due("row 1 8", 1).due("pass 0 5", 1)
                .dueEach("told 2", 0, 1, 6, 1, 0);
    }

    static void p14WhatIsKeptStaysSo() {
        new Run("14 'what is KEPT stays so'").due("set 0 1 5 1 1", 0).due("keep", 0).due("keep", 1)
                .due("pass 0 6", 2).due("keep", 2).due("back 0", 1).due("of 5", 3).due("cancel 0", true)
                .due("set 1 9 9 9 9", 1).due("back 0", 1).dueEach("told 0", 0, 1, 5, 1, 1).element("told 1 0")
                .due("move 0 7", 5).due("back 0", 1).due("told 0 2", 5).due("pass 0 5", 1).due("back 0", 1)
                .due("told 0 4", 1).due("now 0", -1).due("back 2", 0).due("now 0", 6).due("back 1", 1).due("of 5", 3);
    }

    static void p14WhatWasDoneStaysSo() {
        new Run("14 'and what was DONE in the last PASS'").due("set 0 1 5 0 0", 0).due("keep", 0)
                .due("row 7 6", 0).due("pass 0 6", 2).due("back 0", 1).due("of 6", 2).dueDone(0, 1, 0, 1, 5, 0)
                .dueDone(1, 0, 0, 7, 6, 0).element("done 2 0").due("keep", 1).due("pass 0 4", 0).due("back 1", 1)
                .due("of 6", 0).element("done 0 0");
    }

    static void p14NothingIsKeptThere() {
        new Run("14 'IllegalArgument: nothing is KEPT there'").argumentEach("back %", -1, 0, 1, 2, 3, MIN, MAX)
                .due("keep", 0).argumentEach("back %", -1, 1, 2, 3, MIN, MAX).due("back 0", 0).due("keep", 1)
                .argumentEach("back %", -1, 2, 3).due("back 1", 0).due("keep", 2)
                .argumentEach("back %", -1, 3, MIN, MAX).due("back 2", 0).due("forget", 2).argument("back 2")
                .due("forget", 1).argument("back 1").due("forget", 0).argument("back 0").due("keep", 0)
                .due("clear", 0).argument("back 0");
    }

    static void p14HowManyTimersWaitThen() {
        new Run("14 'How many TIMERS WAIT then'").due("row 1 5", 0).due("keep", 0).numbered(40, "set 1 1 5 0 0", 0)
                .due("keep", 1).due("pass 1 5", 40).due("set 0 1 5 0 0", 40).due("keep", 2).due("back 1", 40)
                .due("back 0", 0).due("back 2", 1).due("back 2", 1);
    }

    static void p15TheLastOne() {
        new Run("15 'The last one that was KEPT is so no more: how many are'").due("keep", 0)
                .due("set 0 1 5 0 0", 0).due("keep", 1).due("set 0 1 5 0 0", 1).due("keep", 2).due("forget", 2)
                .due("of 5", 2).argument("back 2").dueEach("of", 2, 0, 2).due("back 1", 1).due("forget", 1)
                .argument("back 1").due("back 0", 0).due("forget", 0).argument("back 0").due("of 5", 0);
        new Run("15 'The last one that was KEPT': not the one that came back last").due("keep", 0)
                .due("set 0 1 5 0 0", 0).due("keep", 1).due("back 0", 0).due("forget", 1).due("back 0", 0)
                .due("set 0 1 5 0 0", 0).due("set 0 1 5 0 0", 1).due("keep", 1).due("back 1", 2).due("back 0", 0);
    }

    static void p15NoneIs() {
        new Run("15 'IllegalState: none is'").state("forget").due("keep", 0).due("forget", 0).state("forget")
                .due("keep", 0).due("keep", 1).due("keep", 2).due("forget", 2).due("forget", 1).due("forget", 0)
                .state("forget").due("keep", 0).due("clear", 0).state("forget");
    }

    static void p16TheTaskOfAKey() {
        new Run("16 'THE TASK of a KEY, of so many (1 .. 128)'").due("task 0 1", 0).due("task 127 1", 0)
                .due("task " + LOW + " 1", 0).due("task " + HIGH + " 1", 0).due("task 0 128", 0)
                .due("task 127 128", 127).due("task 63 2", 0).due("task 64 2", 1).due("task -1 2", 1)
                .due("task 128 2", 0).due("task 1000 7", 5);
    }

    static void p16Arguments() {
        new Run("16 'IllegalArgument'").argumentEach("task 0 %", 0, 129, -1, MIN, MAX)
                .argumentEach("task " + HIGH + " %", 0, 129, -1, MIN, MAX)
                .argumentEach("task " + LOW + " %", 0, 129, -128, MIN, MAX).due("task 5 1", 0).due("task 5 128", 5);
    }

    static void p17TimersAndRows() {
        new Run("17 'How many TIMERS and ROWS WAIT whose KEY is of a TASK of so many'").due("load 0 1", 0)
                .due("load 127 128", 0).due("set 0 63 5 0 0", 0).due("set 1 64 5 0 0", 1).due("set 1 -1 5 0 1", 2)
                .due("row 127 5", 0).due("row 0 5", 1).due("row 128 9", 2).due("load 0 1", 6).due("load 0 2", 3)
                .due("load 1 2", 3).due("load 0 128", 2).due("load 63 128", 1).due("load 64 128", 1)
                .due("load 127 128", 2).due("load 1 128", 0).due("load 62 128", 0).due("pass 0 5", 3)
                .due("load 0 2", 1).due("load 1 2", 2).due("pass 1 5", 3).due("load 1 2", 0).due("load 0 1", 1)
                .due("row 5 5", -1).due("load 0 1", 1);
        new Run("17 'How many': as much as there may be").numbered(20, "set 0 -1 5 0 0", 0)
                .numbered(20, "set 1 127 5 0 0", 20).numbered(40, "row 255 5", 0).due("load 0 1", 80)
                .due("load 127 128", 80).due("load 0 128", 0).due("load 126 127", 80);
    }

    static void p17Tasks() {
        new Run("17 'IllegalArgument': so many").argumentEach("load 0 %", 0, 129, -1, MIN, MAX)
                .due("set 0 0 5 0 0", 0).argumentEach("load 0 %", 0, 129, -1, MIN, MAX).due("load 0 1", 1)
                .due("load 0 128", 1);
    }

    static void p17Task() {
        new Run("17 'IllegalArgument': a task").due("set 0 0 5 0 0", 0).due("set 0 127 5 0 0", 1)
                .argumentEach("load % 1", -1, 1, MIN, MAX).argumentEach("load % 2", -1, 2)
                .argumentEach("load % 128", -1, 128, MIN, MAX).argumentEach("load % 129", -1, 128, 129)
                .argument("load " + MAX + " " + MAX).due("load 0 2", 1).due("load 1 2", 1).due("load 127 128", 1);
    }

    static void p18TimersAndRowsThatWait() {
        new Run("18 '0 how many TIMERS WAIT, 1 ROWS'").dueEach("of", 0, 0).due("set 0 1 5 1 1", 0)
                .due("set 1 1 5 0 0", 1).due("row 1 5", 0).dueEach("of", 2, 1).due("pass 0 5", 2)
                .dueEach("of", 2, 0).due("cancel 1", true).dueEach("of", 1, 0).due("pass 0 6", 1).dueEach("of", 0, 0)
                .numbered(40, "set 0 1 7 0 0", 3).numbered(40, "row 1 7", 1).dueEach("of", 40, 40);
    }

    static void p18NextNumbers() {
        new Run("18 '2 how many TIMERS were set (the next number), 3 ROWS that came (the next number)'")
                .due("of 2", 0).due("of 3", 0).due("set 0 1 5 1 2", 0).due("of 2", 1).due("row 1 9", 0)
                .due("row 1 9", 1).due("of 3", 2).due("pass 0 5", 1).due("of 2", 2).due("cancel 1", true)
                .due("of 2", 2).due("row 1 5", -1).due("of 3", 2).due("set 0 1 9 0 0", 2).due("row 1 9", 2);
    }

    static void p18LateOnes() {
        new Run("18 '4 LATE ones'").due("of 4", 0).due("row 1 0", 0).due("of 4", 0).due("pass 0 0", 1)
                .due("row 1 0", -1).due("of 4", 1).due("row 1 0", -1).due("of 4", 2).due("row 1 1", 1)
                .due("of 4", 2).due("set 0 1 0 0 0", 0).due("of 4", 2);
    }

    static void p18Kept() {
        new Run("18 '5 how many are KEPT'").due("of 5", 0).due("keep", 0).due("of 5", 1).due("keep", 1)
                .due("of 5", 2).due("keep", 2).due("of 5", 3).due("back 0", 0).due("of 5", 3).due("forget", 2)
                .due("of 5", 2).due("clear", 0).due("of 5", 0);
    }

    static void p18Done() {
        new Run("18 '6 how many were DONE in the last PASS'").due("of 6", 0).due("set 0 1 5 0 1", 0)
                .due("row 1 5", 0).due("pass 0 4", 0).due("of 6", 0).due("pass 0 5", 3).due("of 6", 3)
                .due("pass 1 5", 0).due("of 6", 0).due("pass 0 5", 0).due("of 6", 0);
    }

    static void p18Arguments() {
        new Run("18 'IllegalArgument'").argumentEach("of %", -1, 7, MIN, MAX).due("of 0", 0).due("of 6", 0);
    }

    static void p19NowOfAClock() {
        new Run("19 'NOW of a CLOCK'").dueEach("now", -1, -1).due("pass 0 0", 0).dueEach("now", 0, -1)
                .due("pass 1 8", 0).dueEach("now", 0, 8).due("set 0 1 99 0 0", 0).due("row 1 98", 0)
                .dueEach("now", 0, 8).due("pass 0 1000000000000", 2).dueEach("now", LAST_TIME, 8)
                .argument("pass 1 7").due("pass 1 1000000000000", 0).dueEach("now", LAST_TIME, LAST_TIME)
                .due("clear", 0).dueEach("now", -1, -1);
    }

    static void p19Arguments() {
        new Run("19 'IllegalArgument'").argumentEach("now %", -1, 2, MIN, MAX).due("pass 0 5", 0)
                .argumentEach("now %", -1, 2, MIN, MAX);
    }
}
