/** Each promise of the document: ordinary inputs, the edges that it names, wrong inputs. */
public final class PromiseTest {
    private static final long LOW = Long.MIN_VALUE;
    private static final long HIGH = Long.MAX_VALUE;
    private static final long LAST_TIME = 1000000000000L;

    public static void main(String[] args) {
        promise1New();
        promise2Clear();
        promise3Set();
        promise3SetFull();
        promise4Move();
        promise5Cancel();
        promise6Row();
        promise6RowFull();
        promise7First();
        promise8Pass();
        promise8PassOrder();
        promise8PassSetsAgain();
        promise8PassAtTheEndOfTime();
        promise8DearestPass();
        promise9Done();
        promise10Told();
        promise11Next();
        promise12Waiting();
        promise13Keep();
        promise14Back();
        promise14BackFromEachPlace();
        promise15Forget();
        promise16Task();
        promise17Load();
        promise18Of();
        promise19Now();
        Run.end();
    }

    private static void promise1New() {
        Run.check("NONE", TimerRows.NONE, -1);
        new Run("1 new").dueEach("of", 0, 0, 0, 0, 0, 0, 0).dueEach("now", -1, -1).dueEach("next", -1, -1)
                .element("done 0 0").element("told 0 0").argument("back 0").state("forget").due("load 0 1", 0)
                .due("first true", true);
        Run other = new Run("1 another object is apart");
        new Run("1 one object").due("set 0 1 1 1 1", 0).due("row 1 1", 0).due("pass 0 1", 2).due("keep", 0)
                .due("first false", true);
        other.dueEach("of", 0, 0, 0, 0, 0, 0, 0).dueEach("now", -1, -1).due("first true", true);
    }

    private static void promise2Clear() {
        new Run("2 clear").due("clear", 0).due("set 0 1 5 2 3", 0).due("set 1 1 5 2 3", 1).due("row 3 5", 0)
                .due("row 3 1", 1).due("first false", true).due("keep", 0).due("keep", 1).due("pass 0 1", 1)
                .due("pass 1 2", 0).due("row 1 1", -1).due("pass 0 1", 0).due("pass 0 5", 2)
                .dueEach("of", 2, 0, 3, 2, 1, 2, 2).due("row 4 9", 2)
                .due("clear", 3).dueEach("of", 0, 0, 0, 0, 0, 0, 0).dueEach("now", -1, -1).element("done 0 0")
                .argument("back 0").state("forget").element("told 1 0").due("cancel 1", false)
                .due("first true", true).due("row 4 0", 0).due("set 0 4 0 0 0", 0).due("keep", 0)
                .due("pass 0 0", 2).dueDone(0, 0, 0, 4, 0, 0).dueDone(1, 1, 0, 4, 0, 0).due("clear", 0);
    }

    private static void promise3Set() {
        new Run("3 set").due("set 0 " + LOW + " 0 0 0", 0).due("set 1 " + HIGH + " " + LAST_TIME + " 1000000000 50", 1)
                .argument("set -1 0 0 0 0").argument("set 2 0 0 0 0").argument("set 0 0 -1 0 0")
                .argument("set 0 0 1000000000001 0 0").argument("set 0 0 0 -1 0").argument("set 0 0 0 1000000001 0")
                .argument("set 0 0 0 0 -1").argument("set 0 0 0 0 51").argument("set 0 0 " + LOW + " 0 0")
                .argument("set 0 0 " + HIGH + " 0 0").argument("set 0 0 0 " + LOW + " 0")
                .argument("set 0 0 0 " + HIGH + " 0").argument("set 2147483647 0 0 0 0")
                .argument("set -2147483648 0 0 0 0").argument("set 0 0 0 0 2147483647")
                .due("set 0 7 3 4 5", 2).dueEach("told 2", 0, 7, 3, 4, 5).dueEach("told 0", 0, LOW, 0, 0, 0)
                .dueEach("told 1", 1, HIGH, LAST_TIME, 1000000000, 50);
        new Run("3 set waits below now").due("pass 0 10", 0).due("set 0 1 10 0 0", 0).due("set 0 1 2 0 0", 1)
                .due("of 0", 2).due("next 0", 1).due("pass 0 10", 2).dueDone(0, 1, 1, 1, 2, 0);
    }

    private static void promise3SetFull() {
        Run run = new Run("3 set when 40 wait");
        for (int i = 0; i < 40; i++) {
            run.due("set " + i % 2 + " 1 5 0 0", i);
        }
        run.state("set 0 1 5 0 0").state("set 1 1 5 0 0").argument("set 2 1 5 0 0").argument("set 0 1 5 0 51")
                .due("row 1 5", 0).due("cancel 7", true).due("set 1 2 5 0 0", 40).state("set 1 1 5 0 0")
                .due("pass 1 5", 20).due("set 1 2 5 0 0", 41).due("of 0", 21);
    }

    private static void promise4Move() {
        new Run("4 move").due("set 0 1 20 3 4", 0).due("set 1 2 6 0 0", 1).due("move 0 5", 20)
                .dueEach("told 0", 0, 1, 5, 3, 4).dueEach("told 1", 1, 2, 6, 0, 0).due("move 0 5", 5).due("move 0 0", 5)
                .due("move 1 " + LAST_TIME, 6).due("move 1 7", LAST_TIME).argument("move 0 -1")
                .argument("move 0 1000000000001").argument("move 9 -1").argument("move -1 " + HIGH)
                .element("move 2 5").element("move -1 5").element("move 2147483647 5").element("move -2147483648 5")
                .due("pass 0 0", 1).element("move 0 5").due("told 2 2", 3).due("move 2 9", 3).due("pass 0 8", 0)
                .due("move 2 1", 9).due("of 2", 3).due("pass 0 8", 3).due("cancel 1", true).element("move 1 5");
    }

    private static void promise5Cancel() {
        new Run("5 cancel").due("cancel 0", false).due("set 0 1 5 1 1", 0).due("set 1 2 6 2 2", 1)
                .due("set 0 3 7 3 3", 2).due("cancel -1", false).due("cancel 3", false)
                .due("cancel -2147483648", false).due("cancel 2147483647", false).due("cancel 0", true)
                .due("cancel 0", false).element("told 0 0").dueEach("told 1", 1, 2, 6, 2, 2)
                .dueEach("told 2", 0, 3, 7, 3, 3).due("of 0", 2).due("of 2", 3).due("cancel 2", true)
                .due("pass 0 50", 0).due("pass 1 6", 1).due("cancel 1", false).due("cancel 3", true)
                .due("of 0", 0).due("set 0 0 0 0 0", 4);
    }

    private static void promise6Row() {
        new Run("6 row").due("row " + LOW + " 0", 0).due("row " + HIGH + " " + LAST_TIME, 1).argument("row 0 -1")
                .argument("row 0 1000000000001").argument("row 0 " + LOW).argument("row 0 " + HIGH)
                .dueEach("of", 0, 2, 0, 2, 0, 0, 0).due("pass 1 100", 0).due("row 5 3", 2).due("pass 0 10", 2)
                .due("row 1 10", -1).due("row 1 9", -1).due("row 1 0", -1).argument("row 1 -1")
                .dueEach("of", 0, 1, 0, 3, 3, 0, 2).due("row 1 11", 3).due("pass 0 11", 1).dueDone(0, 0, 3, 1, 11, 0)
                .due("pass 0 " + LAST_TIME, 1).due("row 1 " + LAST_TIME, -1).due("of 4", 4);
    }

    private static void promise6RowFull() {
        Run run = new Run("6 row when 40 wait").due("pass 0 4", 0);
        for (int i = 0; i < 40; i++) {
            run.due("row 1 5", i);
        }
        run.state("row 1 5").state("row 2 " + LAST_TIME).argument("row 2 -1").due("row 1 4", -1).due("row 1 0", -1)
                .dueEach("of", 0, 40, 0, 40, 2, 0, 0).due("set 0 1 5 0 0", 0).state("row 1 5").due("pass 0 5", 41)
                .due("row 1 6", 40).due("of 1", 1);
    }

    private static void promise7First() {
        new Run("7 first").due("first true", true).due("first false", true).due("first false", false)
                .due("first true", false).due("first true", true);
        new Run("7 rows behind").due("first false", true).due("row 1 5", 0).due("set 0 9 5 0 1", 0).due("row 1 4", 1)
                .due("pass 0 5", 4).dueDone(0, 0, 1, 1, 4, 0).dueDone(1, 1, 0, 9, 5, 1).dueDone(2, 1, 1, 9, 5, 0)
                .dueDone(3, 0, 0, 1, 5, 0).due("first true", false);
        new Run("7 rows ahead").due("row 9 5", 0).due("set 0 1 5 0 1", 0).due("set 0 1 4 0 0", 1).due("pass 0 5", 4)
                .dueDone(0, 1, 1, 1, 4, 0).dueDone(1, 0, 0, 9, 5, 0).dueDone(2, 1, 0, 1, 5, 1)
                .dueDone(3, 1, 2, 1, 5, 0);
    }

    private static void promise8Pass() {
        new Run("8 pass").argument("pass -1 0").argument("pass 2 0").argument("pass 0 -1").argument("pass 1 -1")
                .argument("pass 0 1000000000001").argument("pass 0 " + HIGH).argument("pass 0 " + LOW)
                .due("pass 0 0", 0).due("pass 0 0", 0).due("set 0 1 5 0 0", 0).due("set 1 1 5 0 0", 1)
                .due("row 1 5", 0).due("pass 0 4", 0).due("pass 1 5", 1).dueDone(0, 1, 1, 1, 5, 0).due("of 1", 1)
                .argument("pass 1 4").argument("pass 0 3").due("of 6", 1).due("pass 0 5", 2).due("pass 0 5", 0)
                .due("of 6", 0).due("pass 0 " + LAST_TIME, 0).argument("pass 0 " + (LAST_TIME - 1))
                .argument("pass 0 " + (LAST_TIME + 1)).due("pass 1 6", 0).dueEach("now", LAST_TIME, 6);
    }

    private static void promise8PassOrder() {
        Run run = new Run("8 the order").due("set 0 " + HIGH + " 5 0 0", 0).due("set 0 0 5 0 0", 1)
                .due("set 0 " + LOW + " 5 0 0", 2).due("set 0 0 5 0 0", 3).due("set 0 -1 5 0 0", 4)
                .due("set 0 9 4 0 0", 5).due("row 2 5", 0).due("row -2 5", 1).due("row 2 5", 2).due("row 9 4", 3)
                .due("row " + HIGH + " 5", 4).due("row " + LOW + " 5", 5).due("cancel 1", true).due("pass 0 9", 11);
        String[] order = {"0 3", "1 5", "0 5", "0 1", "0 0", "0 2", "0 4", "1 2", "1 4", "1 3", "1 0"};
        for (int i = 0; i < order.length; i++) {
            run.due("done " + i + " 0", order[i].substring(0, 1)).due("done " + i + " 1", order[i].substring(2));
        }
        new Run("8 the order after a move").due("set 0 1 9 0 0", 0).due("set 0 1 5 0 0", 1).due("set 0 1 7 0 0", 2)
                .due("move 0 5", 9).due("move 2 4", 7).due("pass 0 5", 3).dueEach("done 0", 1, 2)
                .dueEach("done 1", 1, 0).dueEach("done 2", 1, 1);
    }

    private static void promise8PassSetsAgain() {
        new Run("8 set again").due("set 1 -5 3 4 3", 0).due("set 1 -5 7 0 1", 1).due("set 0 -5 0 0 1", 2)
                .due("row 1 1", 0).due("pass 1 11", 5)
                .dueDone(0, 1, 0, -5, 3, 3).dueDone(1, 1, 1, -5, 7, 1).dueDone(2, 1, 3, -5, 7, 2)
                .dueDone(3, 1, 4, -5, 7, 0).dueDone(4, 1, 5, -5, 11, 1).element("done 5 0")
                .dueEach("told 6", 1, -5, 15, 4, 0).element("told 0 0").element("told 3 0").element("told 5 0")
                .dueEach("of", 2, 1, 7, 1, 0, 0, 5).due("pass 1 14", 0).due("pass 1 15", 1)
                .dueDone(0, 1, 6, -5, 15, 0).due("of 0", 1).due("of 2", 7).due("set 0 0 0 0 0", 7);
        new Run("8 set again far below now").due("pass 0 1000", 0).due("set 0 1 0 100 50", 0).due("pass 0 1000", 11)
                .dueDone(10, 1, 10, 1, 1000, 40).dueEach("told 11", 0, 1, 1100, 100, 39);
    }

    private static void promise8PassAtTheEndOfTime() {
        new Run("8 set again above all times").due("set 0 1 " + LAST_TIME + " 1000000000 2", 0)
                .due("set 0 2 " + LAST_TIME + " 0 2", 1).due("pass 0 " + LAST_TIME, 4)
                .dueEach("told 2", 0, 1, 1001000000000L, 1000000000, 1).due("next 0", 2)
                .due("waiting 0 1 1001000000000 1001000000000", 1).due("pass 0 " + LAST_TIME, 0)
                .due("move 2 " + LAST_TIME, 1001000000000L).due("pass 0 " + LAST_TIME, 1).due("told 5 4", 0);
    }

    private static void promise8DearestPass() {
        Run run = new Run("8 the dearest pass");
        for (int i = 0; i < 40; i++) {
            run.due("set 0 " + i + " 1 1 50", i).due("row " + i + " 51", i);
        }
        run.due("keep", 0);
        for (int round = 0; round < 2; round++) {
            run.due("pass 0 60", 2080).dueEach("of", 0, 0, 2040, 40, 0, 1, 2080);
            for (int i = 0; i < 2000; i++) {
                run.dueDone(i, 1, i, i % 40, 1 + i / 40, 50 - i / 40);
            }
            for (int i = 0; i < 40; i++) {
                run.dueDone(2000 + i, 0, i, i, 51, 0).dueDone(2040 + i, 1, 2000 + i, i, 51, 0);
            }
            run.element("done 2080 0").due("back 0", 40);
        }
    }

    private static void promise9Done() {
        new Run("9 done").element("done 0 0").element("done -1 4").argument("done 0 -1").argument("done 0 5")
                .due("set 1 -7 3 2 1", 0).due("row 8 2", 0).due("pass 1 4", 1).dueDone(0, 1, 0, -7, 3, 1)
                .element("done 1 0").element("done -1 0").element("done 2147483647 0").element("done -2147483648 4")
                .argument("done 0 5").argument("done 0 -1").argument("done 1 5").argument("done -1 2147483647")
                .argument("done 0 -2147483648").due("pass 0 2", 1).dueDone(0, 0, 0, 8, 2, 0)
                .argument("pass 0 1").dueDone(0, 0, 0, 8, 2, 0).due("set 0 1 1 0 0", 2).due("cancel 2", true)
                .dueDone(0, 0, 0, 8, 2, 0).due("pass 0 2", 0).element("done 0 0");
    }

    private static void promise10Told() {
        new Run("10 told").element("told 0 0").element("told -1 4").argument("told 0 5").argument("told 0 -1")
                .due("set 1 -9 8 7 6", 0).due("set 0 " + HIGH + " 0 0 0", 1).dueEach("told 0", 1, -9, 8, 7, 6)
                .dueEach("told 1", 0, HIGH, 0, 0, 0).argument("told 0 5").argument("told 0 -1")
                .argument("told 9 -2147483648").argument("told -1 2147483647").element("told 2 0")
                .element("told -1 0").element("told -2147483648 0").element("told 2147483647 4").due("pass 0 0", 1)
                .element("told 1 0").due("cancel 0", true).element("told 0 0").due("row 1 5", 0).element("told 0 0");
    }

    private static void promise11Next() {
        new Run("11 next").dueEach("next", -1, -1).argument("next -1").argument("next 2").argument("next 2147483647")
                .due("row 1 1", 0).due("next 0", -1).due("set 0 5 9 0 0", 0).dueEach("next", 0, -1)
                .due("set 1 4 1 0 0", 1).dueEach("next", 0, 1).due("set 0 5 9 0 0", 2).due("next 0", 0)
                .due("set 0 4 9 0 0", 3).due("next 0", 3).due("set 0 " + LOW + " 9 0 0", 4).due("next 0", 4)
                .due("set 0 9 8 0 0", 5).due("next 0", 5).due("move 5 10", 8).due("next 0", 4).due("cancel 4", true)
                .due("next 0", 3).due("move 0 8", 9).due("next 0", 0).due("pass 0 9", 4).dueEach("next", 5, 1)
                .due("pass 1 1", 1).dueEach("next", 5, -1);
    }

    private static void promise12Waiting() {
        new Run("12 waiting").due("waiting 0 1 0 10", 0).due("set 0 1 5 0 0", 0).due("set 0 1 7 0 0", 1)
                .due("set 0 2 5 0 0", 2).due("set 1 1 5 0 0", 3).due("row 1 5", 0).due("waiting 0 1 5 7", 2)
                .due("waiting 0 1 5 6", 1).due("waiting 0 1 6 7", 1).due("waiting 0 1 6 6", 0)
                .due("waiting 0 1 5 5", 1).due("waiting 1 1 5 5", 1).due("waiting 0 2 0 9", 1)
                .due("waiting 0 3 0 9", 0).due("waiting 0 129 0 9", 0).due("waiting 0 1 " + LOW + " " + HIGH, 2)
                .due("waiting 0 1 " + LOW + " -1", 0).due("waiting 0 1 " + HIGH + " " + HIGH, 0)
                .argument("waiting 0 1 6 5").argument("waiting 0 1 " + HIGH + " " + LOW).argument("waiting 2 1 0 9")
                .argument("waiting -1 1 0 9").due("pass 0 5", 3).due("waiting 0 1 0 9", 1).due("cancel 1", true)
                .due("waiting 0 1 0 9", 0);
    }

    private static void promise13Keep() {
        new Run("13 keep").due("keep", 0).due("set 0 1 5 0 0", 0).due("keep", 1).due("keep", 2).state("keep")
                .due("of 5", 3).due("forget", 2).due("cancel 0", true).due("keep", 2).state("keep").due("back 2", 0)
                .due("back 1", 1).due("back 0", 0).state("keep");
        new Run("13 what is kept stays as it was").due("set 0 1 5 1 3", 0).due("row 1 5", 0).due("keep", 0)
                .due("move 0 6", 5).due("cancel 0", true).due("set 1 8 8 8 8", 1).due("row 8 8", 1).due("pass 0 9", 2)
                .due("pass 1 7", 0).due("row 1 1", -1).due("first false", true).due("back 0", 1)
                .dueEach("told 0", 0, 1, 5, 1, 3).dueEach("of", 1, 1, 1, 1, 0, 1, 0).dueEach("now", -1, -1)
                .due("first true", true).due("pass 0 5", 2).dueDone(0, 0, 0, 1, 5, 0).dueDone(1, 1, 0, 1, 5, 3);
    }

    private static void promise14Back() {
        new Run("14 back").argument("back 0").argument("back -1").argument("back 3").due("set 0 1 5 0 0", 0)
                .due("set 1 2 6 7 8", 1).due("row 3 9", 0).due("pass 0 5", 1).due("pass 1 3", 0).due("row 1 1", -1)
                .due("first false", true).due("keep", 0).argument("back 1").argument("back -1")
                .argument("back 2147483647").argument("back -2147483648").due("first true", false)
                .due("set 0 1 20 0 0", 2).due("row 4 21", 1).due("row 4 2", -1).due("pass 0 30", 3)
                .due("pass 1 12", 1).dueEach("of", 1, 0, 4, 2, 2, 1, 1).due("back 0", 1)
                .dueEach("of", 1, 1, 2, 1, 1, 1, 1).dueEach("now", 5, 3).dueDone(0, 1, 1, 2, 6, 8)
                .dueEach("told 1", 1, 2, 6, 7, 8).element("told 3 0").due("first false", false)
                .due("set 0 1 20 0 0", 2).due("row 4 21", 1).due("pass 0 9", 1).dueDone(0, 0, 0, 3, 9, 0)
                .due("back 0", 1).due("back 0", 1).dueDone(0, 0, 0, 3, 9, 0).due("clear", 2).argument("back 0");
    }

    private static void promise14BackFromEachPlace() {
        Run run = new Run("14 back from each place").due("keep", 0).due("set 0 1 5 0 0", 0).due("keep", 1)
                .due("set 1 2 6 0 0", 1).due("row 1 1", 0).due("keep", 2).due("back 0", 0)
                .dueEach("of", 0, 0, 0, 0, 0, 3, 0).due("back 2", 2).dueEach("of", 2, 1, 2, 1, 0, 3, 0).due("back 1", 1)
                .dueEach("of", 1, 0, 1, 0, 0, 3, 0).argument("back 3").due("set 1 9 9 0 0", 1).due("told 1 1", 9)
                .due("back 2", 2).due("told 1 1", 2).due("forget", 2).argument("back 2").due("back 1", 1);
        run.due("clear", 1).due("keep", 0).argument("back 1").due("back 0", 0).due("of 2", 0);
    }

    private static void promise15Forget() {
        new Run("15 forget").state("forget").due("keep", 0).due("set 0 1 5 0 0", 0).due("keep", 1)
                .due("set 0 1 5 0 0", 1).due("keep", 2).due("forget", 2).argument("back 2").due("of 0", 2)
                .due("back 1", 1).due("forget", 1).argument("back 1").due("keep", 1).due("forget", 1).due("back 0", 0)
                .due("forget", 0).argument("back 0").state("forget").due("of 5", 0).due("keep", 0);
    }

    private static void promise16Task() {
        new Run("16 task").due("task 0 1", 0).due("task 127 1", 0).due("task 127 128", 127).due("task 63 2", 0)
                .due("task 64 2", 1).due("task 128 128", 0).due("task 42 3", 0).due("task 43 3", 1)
                .due("task 85 3", 1).due("task 86 3", 2).due("task -1 128", 127).due("task -128 128", 0)
                .due("task -129 128", 127).due("task -127 128", 1).due("task " + LOW + " 128", 0)
                .due("task " + HIGH + " 128", 127).due("task 1000 7", 5).due("task 1 127", 0).due("task 127 127", 126)
                .argument("task 0 0").argument("task 0 129").argument("task 0 -1").argument("task 5 2147483647")
                .argument("task 5 -2147483648");
    }

    private static void promise17Load() {
        new Run("17 load").due("load 0 1", 0).due("load 127 128", 0).due("set 0 63 5 0 0", 0).due("set 1 64 5 0 0", 1)
                .due("set 1 -1 5 0 1", 2).due("row 127 5", 0).due("row 0 5", 1).due("row 128 9", 2)
                .due("load 0 1", 6).due("load 0 2", 3).due("load 1 2", 3).due("load 0 128", 2).due("load 63 128", 1)
                .due("load 64 128", 1).due("load 127 128", 2).due("load 1 128", 0).due("pass 0 5", 3)
                .due("load 0 2", 1).due("load 1 2", 2).due("pass 1 5", 3).due("load 1 2", 0).due("load 0 1", 1)
                .argument("load 0 0").argument("load 0 129").argument("load -1 2").argument("load 2 2")
                .argument("load 128 128").argument("load -2147483648 128").argument("load 2147483647 2147483647")
                .argument("load 0 -1");
    }

    private static void promise18Of() {
        new Run("18 of").argument("of -1").argument("of 7").argument("of 2147483647").argument("of -2147483648")
                .due("set 0 1 5 1 2", 0).due("set 1 1 5 0 0", 1).dueEach("of", 2, 0, 2, 0, 0, 0, 0).due("row 1 5", 0)
                .due("row 1 6", 1).due("row 1 7", 2).dueEach("of", 2, 3, 2, 3, 0, 0, 0).due("keep", 0)
                .due("pass 0 6", 4).dueEach("of", 2, 1, 4, 3, 0, 1, 4).due("row 1 6", -1).due("row 1 3", -1)
                .due("keep", 1).dueEach("of", 2, 1, 4, 3, 2, 2, 4).due("cancel 1", true).due("pass 1 0", 0)
                .dueEach("of", 1, 1, 4, 3, 2, 2, 0).due("back 0", 2).dueEach("of", 2, 3, 2, 3, 0, 2, 0);
    }

    private static void promise19Now() {
        new Run("19 now").dueEach("now", -1, -1).argument("now -1").argument("now 2").argument("now 2147483647")
                .argument("now -2147483648").due("pass 0 0", 0).dueEach("now", 0, -1).due("pass 1 8", 0)
                .dueEach("now", 0, 8).due("set 0 1 99 0 0", 0).due("row 1 98", 0).dueEach("now", 0, 8)
                .due("pass 0 " + LAST_TIME, 2).dueEach("now", LAST_TIME, 8).argument("pass 1 7")
                .dueEach("now", LAST_TIME, 8);
    }
}
