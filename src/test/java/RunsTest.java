/** Promises 12 to 21: runs, refreshes, names, results and what was seen. */
final class RunsTest {
    private static final String BIG = "a=500*500;a=a*500;a=a*17";

    private RunsTest() {
    }

    public static void main(String[] args) {
        Checks.run(
                RunsTest::aRunSetsNames,
                RunsTest::operationsComeToTheirValues,
                RunsTest::outcomesThatAreNoIntFail,
                RunsTest::aRunThatFailsLeavesTheNames,
                RunsTest::anEmptyProgramHasNoResult,
                RunsTest::namesAreSeenUnlessSetAhead,
                RunsTest::aRunThatFailsHasSeenWhatItRead,
                RunsTest::runNeedsRun,
                RunsTest::runRefuses,
                RunsTest::thereAreFourHundredRunsAtMost,
                RunsTest::refreshRunsInTheOrder,
                RunsTest::refreshLooksWhenATurnComes,
                RunsTest::refreshDoesNotTurnBack,
                RunsTest::refreshRunsWhatTheUserMay,
                RunsTest::refreshRefuses,
                RunsTest::namesRefuse,
                RunsTest::resultsNeedSee,
                RunsTest::resultsStayWhenStale,
                RunsTest::lastRunsRefuse,
                RunsTest::timesSeenCountsRuns);
        Checks.end();
    }

    private static void aRunSetsNames() {
        CellNotebook notebook = Notebooks.withCells(2);
        Notebooks.program(notebook, 0, "a=3+4;b=a*a");
        Notebooks.program(notebook, 1, "a=b-1");
        Checks.same("run", notebook.run(0, 0), true);
        Checks.same("stamp of a", notebook.stamp(Notebooks.A), 1);
        Checks.same("run", notebook.run(0, 1), true);
        Checks.same("value of a", notebook.value(Notebooks.A), 48);
        Checks.same("value of b", notebook.value(Notebooks.B), 49);
        Checks.same("stamp of a", notebook.stamp(Notebooks.A), 2);
        Checks.same("stamp of b", notebook.stamp(Notebooks.B), 1);
        Checks.same("stamp of c", notebook.stamp(Notebooks.C), 0);
        Checks.same("isSet of b", notebook.isSet(Notebooks.B), true);
        Checks.same("isSet of c", notebook.isSet(Notebooks.C), false);
        Checks.same("last run of 0", notebook.lastRun(0), 1);
        Checks.same("last run of 1", notebook.lastRun(1), 2);
        Checks.same("result of 0", notebook.result(0, 0), 49);
        Checks.same("result of 1", notebook.result(0, 1), 48);
    }

    private static int outcome(String program) {
        CellNotebook notebook = Notebooks.withCells(1);
        Notebooks.program(notebook, 0, program);
        Checks.same("run of " + program, notebook.run(0, 0), true);
        return notebook.result(0, 0);
    }

    private static void operationsComeToTheirValues() {
        Checks.same("plus", outcome("a=-500+-500"), -1000);
        Checks.same("minus", outcome("a=3-7"), -4);
        Checks.same("times", outcome("a=-3*7"), -21);
        Checks.same("over", outcome("a=7/2"), 3);
        Checks.same("over, below 0", outcome("a=-7/2"), -3);
        Checks.same("over, by a number below 0", outcome("a=7/-2"), -3);
        Checks.same("over, both below 0", outcome("a=-7/-2"), 3);
        Checks.same("zero over", outcome("a=0/5"), 0);
        Checks.same("the highest int", outcome(highest()), Integer.MAX_VALUE);
        Checks.same("the lowest int", outcome(lowest()), Integer.MIN_VALUE);
    }

    /** 2 to the power of 30, less 1, and the same power added. */
    private static String highest() {
        return "a=128*256;b=a*a;a=b-1;a=a+b";
    }

    private static String lowest() {
        return "a=128*256;b=a*a;a=0-b;a=a-b";
    }

    private static boolean runs(String program) {
        CellNotebook notebook = Notebooks.withCells(1);
        Notebooks.program(notebook, 0, program);
        return notebook.run(0, 0);
    }

    private static void outcomesThatAreNoIntFail() {
        Checks.same("beyond the highest by plus", runs(highest() + ";c=a+1"), false);
        Checks.same("beyond the highest by minus", runs(highest() + ";c=a--1"), false);
        Checks.same("beyond the highest by times", runs("a=128*256;b=a*a;c=b*2"), false);
        Checks.same("beyond the lowest by minus", runs(lowest() + ";c=a-1"), false);
        Checks.same("beyond the lowest by times", runs(lowest() + ";c=a*2"), false);
        Checks.same("the lowest over -1", runs(lowest() + ";c=a/-1"), false);
        Checks.same("the lowest over 1", runs(lowest() + ";c=a/1"), true);
        Checks.same("the lowest times the lowest", runs(lowest() + ";c=a*a"), false);
        Checks.same("by 0", runs("a=1/0"), false);
        Checks.same("0 by 0", runs("a=0/0"), false);
        Checks.same("by a name that is 0", runs("a=1-1;b=5/a"), false);
    }

    private static void aRunThatFailsLeavesTheNames() {
        CellNotebook notebook = Notebooks.withCells(2);
        Notebooks.program(notebook, 0, "a=5+0;b=6+0");
        Notebooks.program(notebook, 1, "a=1+1;c=2+2;d=a/0;b=3+3");
        notebook.run(0, 0);
        Checks.same("a run that fails", notebook.run(0, 1), false);
        Checks.same("value of a", notebook.value(Notebooks.A), 5);
        Checks.same("value of b", notebook.value(Notebooks.B), 6);
        Checks.same("stamp of a", notebook.stamp(Notebooks.A), 1);
        Checks.same("isSet of c", notebook.isSet(Notebooks.C), false);
        Checks.same("stamp of c", notebook.stamp(Notebooks.C), 0);
        Checks.same("it is a last run", notebook.lastRun(1), 2);
        Checks.same("it has no result", notebook.hasResult(1), false);
        Checks.illegalState("result of a run that fails", notebook, () -> notebook.result(0, 1));
        Checks.same("it is counted", notebook.runs(), 2);
        Checks.same("it is in the log", notebook.logged(), 2);
    }

    private static void anEmptyProgramHasNoResult() {
        CellNotebook notebook = Notebooks.withCells(1);
        Checks.same("run of an empty program", notebook.run(0, 0), true);
        Checks.same("its number", notebook.lastRun(0), 1);
        Checks.same("its result", notebook.hasResult(0), false);
        Checks.same("what it has seen", notebook.seen(0), 0);
        Checks.illegalState("result of an empty program", notebook, () -> notebook.result(0, 0));
        Notebooks.program(notebook, 0, "a=1+1");
        notebook.run(0, 0);
        notebook.clear(0, 0);
        Checks.same("run of a program that was cleared", notebook.run(0, 0), true);
        Checks.same("its result", notebook.hasResult(0), false);
    }

    private static void namesAreSeenUnlessSetAhead() {
        CellNotebook notebook = Notebooks.withCells(3);
        Notebooks.program(notebook, 0, "a=1+1;b=2+2;c=3+3");
        Notebooks.program(notebook, 1, "d=a+1;a=b+b;e=a+d");
        Notebooks.program(notebook, 2, "c=c+1");
        Checks.same("seen without a last run", notebook.seen(1), 0);
        notebook.run(0, 0);
        notebook.run(0, 1);
        notebook.run(0, 2);
        Checks.same("seen, none", notebook.seen(0), 0);
        Checks.same("seen ahead of being set", notebook.seen(1), 1 << Notebooks.A | 1 << Notebooks.B);
        Checks.same("seen by the statement that sets", notebook.seen(2), 1 << Notebooks.C);
        Checks.same("changed by its own run", notebook.why(2), CellNotebook.CHANGED);
    }

    private static void aRunThatFailsHasSeenWhatItRead() {
        CellNotebook notebook = Notebooks.withCells(4);
        Notebooks.program(notebook, 0, "a=1+1");
        Notebooks.program(notebook, 1, "b=a+1;c=g+h;d=e+f");
        Notebooks.program(notebook, 2, "b=a+g;c=h+1");
        Notebooks.program(notebook, 3, "b=a/0;c=h+1");
        notebook.run(0, 0);
        for (int cell = 1; cell < 4; cell++) {
            Checks.same("a run that fails", notebook.run(0, cell), false);
        }
        Checks.same("unset left operand: the right one is not read", notebook.seen(1), 1 | 1 << Notebooks.G);
        Checks.same("unset right operand", notebook.seen(2), 1 | 1 << Notebooks.G);
        Checks.same("by 0", notebook.seen(3), 1);
        Checks.same("nothing is stale", notebook.stale(), 0);
        notebook.addCell();
        Notebooks.program(notebook, 4, "g=1+1");
        notebook.run(0, 4);
        Checks.same("the unset name was seen as unset", notebook.why(1), CellNotebook.CHANGED);
        Checks.same("the unset right name was seen as unset", notebook.why(2), CellNotebook.CHANGED);
        Checks.same("what came behind the failure was not seen", notebook.why(3), 0);
    }

    private static void runNeedsRun() {
        CellNotebook notebook = Notebooks.withCells(2);
        Notebooks.program(notebook, 0, "a=1+1");
        Checks.illegalState("run with NOTHING", notebook, () -> notebook.run(2, 0));
        notebook.grant(2, 0, CellNotebook.SEE);
        Checks.illegalState("run with SEE", notebook, () -> notebook.run(2, 0));
        notebook.grant(2, 0, CellNotebook.RUN);
        Checks.same("run with RUN", notebook.run(2, 0), true);
        notebook.grant(2, 0, CellNotebook.EDIT);
        Checks.same("run with EDIT", notebook.run(2, 0), true);
        Checks.illegalState("run of another cell", notebook, () -> notebook.run(2, 1));
    }

    private static void runRefuses() {
        CellNotebook notebook = Notebooks.withCells(2);
        for (int number : new int[] {-1, 5, Integer.MIN_VALUE, Integer.MAX_VALUE}) {
            Checks.outOfBounds("run, user " + number, notebook, () -> notebook.run(number, 0));
            Checks.outOfBounds("run, cell " + number, notebook, () -> notebook.run(0, number));
        }
        Checks.outOfBounds("run, no cell ahead of no right", notebook, () -> notebook.run(1, 2));
    }

    private static CellNotebook withRuns(int runs) {
        CellNotebook notebook = Notebooks.withCells(16);
        for (int run = 0; run < runs; run++) {
            notebook.run(0, 15);
        }
        return notebook;
    }

    private static void thereAreFourHundredRunsAtMost() {
        CellNotebook notebook = withRuns(399);
        Checks.same("the last run", notebook.run(0, 3), true);
        Checks.same("runs", notebook.runs(), 400);
        Checks.same("log", notebook.logAt(399), 400030);
        try {
            notebook.run(0, 3);
            Checks.fail("a run beyond 400 is made");
        } catch (IllegalStateException e) {
            Checks.same("runs", notebook.runs(), 400);
        }
        try {
            notebook.run(0, 16);
            Checks.fail("no cell, ahead of 400 runs");
        } catch (IndexOutOfBoundsException e) {
            Checks.same("runs", notebook.runs(), 400);
        }
    }

    private static void refreshRunsInTheOrder() {
        CellNotebook notebook = Notebooks.withCells(3);
        Notebooks.program(notebook, 0, "b=a+1");
        Notebooks.program(notebook, 1, "a=2+2");
        notebook.move(1, 0);
        Checks.same("refresh", notebook.refresh(0), 3);
        Checks.same("log", Notebooks.log(notebook), "1010 2000 3020 ");
        Checks.same("b", notebook.value(Notebooks.B), 5);
        Checks.same("refresh again", notebook.refresh(0), 0);
        Checks.same("runs", notebook.runs(), 3);
    }

    private static void refreshLooksWhenATurnComes() {
        CellNotebook notebook = Notebooks.withCells(3);
        Notebooks.program(notebook, 0, "a=1+1");
        Notebooks.program(notebook, 1, "b=a+1");
        Notebooks.program(notebook, 2, "a=a+0");
        Checks.same("refresh", notebook.refresh(0), 3);
        Checks.same("stale: 2 has changed what it and 1 have seen", notebook.stale(), 6);
        Checks.same("refresh, once each", notebook.refresh(0), 2);
        Checks.same("log", Notebooks.log(notebook), "1000 2010 3020 4010 5020 ");
        notebook.write(0, 0, Notebooks.A, CellNotebook.PLUS, 600, 600);
        Checks.same("refresh from a cell that was edited on", notebook.refresh(0), 3);
    }

    private static void refreshDoesNotTurnBack() {
        CellNotebook notebook = Notebooks.withCells(2);
        Notebooks.program(notebook, 0, "a=1+1");
        Notebooks.program(notebook, 1, "b=a+1");
        notebook.refresh(0);
        notebook.move(0, 1);
        notebook.write(0, 0, Notebooks.A, CellNotebook.PLUS, 600, 600);
        Checks.same("1 rests on 0", notebook.stale(), 3);
        Checks.same("refresh, 1 ahead of 0", notebook.refresh(0), 2);
        Checks.same("1 is stale again", notebook.stale(), 2);
    }

    private static void refreshRunsWhatTheUserMay() {
        CellNotebook notebook = Notebooks.withCells(4);
        notebook.grant(1, 0, CellNotebook.SEE);
        notebook.grant(1, 1, CellNotebook.RUN);
        notebook.grant(1, 2, CellNotebook.EDIT);
        Checks.same("refresh", notebook.refresh(1), 2);
        Checks.same("log", Notebooks.log(notebook), "1011 2021 ");
        Checks.same("refresh without a right", notebook.refresh(2), 0);
        Checks.same("refresh by the host", notebook.refresh(0), 2);
        Checks.same("log", Notebooks.log(notebook), "1011 2021 3000 4030 ");
    }

    private static void refreshRefuses() {
        CellNotebook notebook = Notebooks.withCells(2);
        for (int user : new int[] {-1, 5, Integer.MIN_VALUE, Integer.MAX_VALUE}) {
            Checks.outOfBounds("refresh, user " + user, notebook, () -> notebook.refresh(user));
        }
        CellNotebook used = withRuns(380);
        Checks.same("refresh at 380 runs", used.refresh(0), 15);
        Checks.same("runs", used.runs(), 395);
        try {
            used.refresh(1);
            Checks.fail("refresh at 395 runs is made");
        } catch (IllegalStateException e) {
            Checks.same("runs", used.runs(), 395);
        }
        try {
            withRuns(381).refresh(4);
            Checks.fail("refresh at 381 runs is made");
        } catch (IllegalStateException e) {
            Checks.same("runs", used.runs(), 395);
        }
        try {
            used.refresh(5);
            Checks.fail("no user, ahead of too many runs");
        } catch (IndexOutOfBoundsException e) {
            Checks.same("runs", used.runs(), 395);
        }
    }

    private static void namesRefuse() {
        CellNotebook notebook = Notebooks.withCells(1);
        Notebooks.program(notebook, 0, "a=1+1;h=2+2");
        notebook.run(0, 0);
        Checks.same("value of h", notebook.value(Notebooks.H), 4);
        for (int name : new int[] {-1, 8, Integer.MIN_VALUE, Integer.MAX_VALUE}) {
            Checks.outOfBounds("isSet " + name, notebook, () -> notebook.isSet(name));
            Checks.outOfBounds("value " + name, notebook, () -> notebook.value(name));
            Checks.outOfBounds("stamp " + name, notebook, () -> notebook.stamp(name));
            Checks.outOfBounds("timesSeen " + name, notebook, () -> notebook.timesSeen(name));
        }
        Checks.illegalState("value of an unset name", notebook, () -> notebook.value(Notebooks.B));
    }

    private static void resultsNeedSee() {
        CellNotebook notebook = Notebooks.withCells(2);
        Notebooks.program(notebook, 0, "a=1+1");
        Checks.illegalState("result without a last run", notebook, () -> notebook.result(0, 0));
        notebook.run(0, 0);
        Checks.same("hasResult", notebook.hasResult(0), true);
        Checks.illegalState("result with NOTHING", notebook, () -> notebook.result(4, 0));
        for (int right = CellNotebook.SEE; right <= CellNotebook.EDIT; right++) {
            notebook.grant(4, 0, right);
            Checks.same("result with " + right, notebook.result(4, 0), 2);
        }
        for (int number : new int[] {-1, 5, Integer.MIN_VALUE, Integer.MAX_VALUE}) {
            Checks.outOfBounds("result, user " + number, notebook, () -> notebook.result(number, 0));
            Checks.outOfBounds("result, cell " + number, notebook, () -> notebook.result(0, number));
        }
        Checks.outOfBounds("result, no cell ahead of no right", notebook, () -> notebook.result(1, 2));
    }

    private static void resultsStayWhenStale() {
        CellNotebook notebook = Notebooks.withCells(1);
        Notebooks.program(notebook, 0, "a=1+1");
        notebook.run(0, 0);
        notebook.clear(0, 0);
        notebook.end();
        Checks.same("why", notebook.why(0), CellNotebook.EDITED);
        Checks.same("hasResult", notebook.hasResult(0), true);
        Checks.same("result", notebook.result(0, 0), 2);
        Notebooks.program(notebook, 0, "a=b+1");
        notebook.run(0, 0);
        Checks.same("hasResult of the run that fails", notebook.hasResult(0), false);
    }

    private static void lastRunsRefuse() {
        CellNotebook notebook = Notebooks.withCells(2);
        for (int cell : new int[] {-1, 2, 16, Integer.MIN_VALUE, Integer.MAX_VALUE}) {
            Checks.outOfBounds("lastRun " + cell, notebook, () -> notebook.lastRun(cell));
            Checks.outOfBounds("hasResult " + cell, notebook, () -> notebook.hasResult(cell));
            Checks.outOfBounds("seen " + cell, notebook, () -> notebook.seen(cell));
        }
    }

    private static void timesSeenCountsRuns() {
        CellNotebook notebook = Notebooks.withCells(2);
        Notebooks.program(notebook, 0, "b=a+a;c=a*a;b=b+c");
        Notebooks.program(notebook, 1, BIG);
        notebook.run(0, 0);
        Checks.same("seen by a run that fails", notebook.timesSeen(Notebooks.A), 1);
        notebook.run(0, 1);
        notebook.run(0, 0);
        notebook.run(0, 0);
        Checks.same("once a run", notebook.timesSeen(Notebooks.A), 3);
        Checks.same("not if set ahead", notebook.timesSeen(Notebooks.B), 0);
        notebook.keep();
        notebook.run(0, 0);
        notebook.restore(0);
        notebook.end();
        notebook.forget(0);
        Checks.same("of all that there were", notebook.timesSeen(Notebooks.A), 4);
        Checks.same("another name", notebook.timesSeen(Notebooks.H), 0);
    }
}
