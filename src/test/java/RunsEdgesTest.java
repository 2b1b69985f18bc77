/** The boundary cases of promises 12 and 13: runs and refreshes. */
final class RunsEdgesTest {
    private static final int PLUS = CellNotebook.PLUS;

    private RunsEdgesTest() {
    }

    public static void main(String[] args) {
        Checks.run(
                RunsEdgesTest::runIsByAUserOnACell,
                RunsEdgesTest::runReturnsWhetherItDoesNotFail,
                RunsEdgesTest::runThrowsWithoutUserOrCell,
                RunsEdgesTest::runThrowsWithoutRun,
                RunsEdgesTest::runThrowsIfThereWereFourHundred,
                RunsEdgesTest::runsAreCountedWhateverBecomesOfThem,
                RunsEdgesTest::refreshGoesInTheOrder,
                RunsEdgesTest::refreshRunsWhatTheUserMay,
                RunsEdgesTest::refreshRunsWhatIsStale,
                RunsEdgesTest::refreshRunsWhatHasNoLastRun,
                RunsEdgesTest::refreshLooksWhenATurnComes,
                RunsEdgesTest::refreshReturnsHowMany,
                RunsEdgesTest::refreshThrowsWithoutUser,
                RunsEdgesTest::refreshThrowsIfThereWereMoreThanThreeHundredEighty,
                RunsEdgesTest::refreshMayPassThreeHundredEighty);
        Checks.end();
    }

    private static void runIsByAUserOnACell() {
        Checks.sentence("Promise 12", "Runs a cell", "user: 0 to 4", "cell: a cell");
        CellNotebook notebook = Notebooks.withCells(16);
        for (int user = 0; user < Notebooks.USERS; user++) {
            if (user > 0) {
                notebook.grant(user, 15, CellNotebook.RUN);
            }
            Checks.same("run", notebook.run(user, 15), true);
            Checks.same("the run", notebook.logAt(user), 1000 * (user + 1) + 150 + user);
        }
        Checks.same("last run of the cell", notebook.lastRun(15), 5);
        Checks.same("last run of another", notebook.lastRun(0), 0);
    }

    private static void runReturnsWhetherItDoesNotFail() {
        Checks.sentence("Promise 12", "Returns whether it does not fail");
        CellNotebook notebook = Notebooks.withCells(1);
        Checks.same("an empty program", notebook.run(0, 0), true);
        Notebooks.programAnew(notebook, 0, "a=1+1");
        Checks.same("a statement", notebook.run(0, 0), true);
        Notebooks.programAnew(notebook, 0, "a=1+1;b=2+2;c=3+3;d=4+4;e=5+5;f=6/0");
        Checks.same("a failure at the last statement", notebook.run(0, 0), false);
        Notebooks.programAnew(notebook, 0, "f=h+1;b=2+2;c=3+3;d=4+4;e=5+5;f=6+0");
        Checks.same("a failure at the first statement", notebook.run(0, 0), false);
        Notebooks.programAnew(notebook, 0, "a=a+a");
        Checks.same("a name set by an earlier run", notebook.run(0, 0), true);
        notebook.end();
        Checks.same("a name unset since", notebook.run(0, 0), false);
    }

    private static void runThrowsWithoutUserOrCell() {
        Checks.sentence("Promise 12", "Throws IndexOutOfBoundsException if there is no such user or cell");
        CellNotebook notebook = Notebooks.withCells(2);
        for (int user : CallsBy.beyond(0, 4)) {
            Checks.outOfBounds("user " + user, notebook, () -> notebook.run(user, 1));
        }
        for (int cell : CallsBy.beyond(0, 1)) {
            Checks.outOfBounds("cell " + cell, notebook, () -> notebook.run(0, cell));
        }
    }

    private static void runThrowsWithoutRun() {
        Checks.sentence("Promise 12", "Throws IllegalStateException if the user may not RUN the cell");
        CellNotebook notebook = Notebooks.withCells(2);
        for (int user = 1; user < Notebooks.USERS; user++) {
            int guest = user;
            notebook.grant(guest, 1, CellNotebook.EDIT);
            for (int right = CellNotebook.NOTHING; right < CellNotebook.RUN; right++) {
                notebook.grant(guest, 0, right);
                Checks.illegalState("run with right " + right, notebook, () -> notebook.run(guest, 0));
            }
            for (int right = CellNotebook.RUN; right <= CellNotebook.EDIT; right++) {
                notebook.grant(guest, 0, right);
                Checks.same("run with right " + right, notebook.run(guest, 0), true);
            }
        }
    }

    /** 16 cells; the last of them was run so often, and is stale. */
    private static CellNotebook withRuns(int runs) {
        CellNotebook notebook = Notebooks.withCells(16);
        Notebooks.program(notebook, 15, "a=1+1");
        notebook.run(0, 15);
        Notebooks.programAnew(notebook, 15, "a=a-1");
        for (int run = 1; run < runs; run++) {
            notebook.run(0, 15);
        }
        return notebook;
    }

    private static void runThrowsIfThereWereFourHundred() {
        Checks.sentence("Promise 12", "or there were 400 runs");
        CellNotebook notebook = withRuns(399);
        Checks.same("runs", notebook.runs(), 399);
        Checks.same("run 400", notebook.run(0, 15), true);
        Checks.same("stamp", notebook.stamp(Notebooks.A), 400);
        Checks.illegalState("run 401", notebook, () -> notebook.run(0, 15));
        Checks.illegalState("run 401 of a cell not yet run", notebook, () -> notebook.run(0, 0));
        Checks.illegalState("run 401 by a guest without a right", notebook, () -> notebook.run(1, 0));
    }

    private static void runsAreCountedWhateverBecomesOfThem() {
        Checks.sentence("Promise 12", "or there were 400 runs");
        CellNotebook notebook = Notebooks.withCells(2);
        Notebooks.program(notebook, 1, "a=b+1");
        notebook.keep();
        for (int run = 0; run < 200; run++) {
            notebook.run(0, 0);
            Checks.same("a run that fails", notebook.run(0, 1), false);
        }
        notebook.restore(0);
        notebook.end();
        Checks.same("forget", notebook.forget(0), 400);
        Checks.same("logged", notebook.logged(), 0);
        Checks.illegalState("run 401", notebook, () -> notebook.run(0, 0));
        Checks.illegalState("refresh then", notebook, () -> notebook.refresh(0));
    }

    private static void refreshGoesInTheOrder() {
        Checks.sentence("Promise 13", "Runs, in the order of cells");
        CellNotebook notebook = Notebooks.withCells(16);
        notebook.move(15, 0);
        notebook.move(0, 15);
        notebook.move(9, 3);
        Checks.same("refresh", notebook.refresh(0), 16);
        Checks.same("log", Notebooks.log(notebook), "1150 2010 3020 4090 5030 6040 7050 8060 9070 10080 11100 "
                + "12110 13120 14130 15140 16000 ");
    }

    private static void refreshRunsWhatTheUserMay() {
        Checks.sentence("Promise 13", "each cell that the user may RUN", "user: 0 to 4");
        for (int guest = 1; guest < Notebooks.USERS; guest++) {
            CellNotebook notebook = Notebooks.withCells(6);
            for (int cell = 0; cell < 4; cell++) {
                notebook.grant(guest, cell, cell);
            }
            notebook.run(0, 1);
            notebook.write(0, 1, 0, PLUS, 600, 600);
            Checks.same("stale, but not to be run by the guest", notebook.stale(), 2);
            Checks.same("refresh", notebook.refresh(guest), 2);
            Checks.same("RUN", notebook.lastRun(2), 2);
            Checks.same("EDIT", notebook.lastRun(3), 3);
            Checks.same("SEE", notebook.lastRun(1), 1);
            Checks.same("NOTHING", notebook.lastRun(0), 0);
            Checks.same("a guest without rights", notebook.refresh(guest % 4 + 1), 0);
            Checks.same("the host", notebook.refresh(0), 4);
        }
    }

    private static void refreshRunsWhatIsStale() {
        Checks.sentence("Promise 13", "and that is stale");
        CellNotebook notebook = Notebooks.withCells(4);
        Notebooks.program(notebook, 0, "a=1+1");
        Notebooks.program(notebook, 1, "b=a+1");
        Notebooks.program(notebook, 2, "c=c+1");
        notebook.refresh(0);
        Checks.same("nothing is stale, not that which failed either", notebook.refresh(0), 0);
        notebook.write(0, 3, 7, PLUS, 600, 600);
        Checks.same("EDITED", notebook.refresh(0), 1);
        Checks.same("last run", notebook.lastRun(3), 5);
        Notebooks.programAnew(notebook, 3, "c=1+1");
        notebook.run(0, 3);
        Checks.same("CHANGED: cell 2, and by what it then sets again", notebook.refresh(0), 1);
        Checks.same("last run", notebook.lastRun(2), 7);
        Notebooks.programAnew(notebook, 2, "h=1+1");
        notebook.run(0, 2);
        Notebooks.programAnew(notebook, 0, "d=1+1");
        notebook.run(0, 0);
        Checks.same("RESTING alone", notebook.why(1), CellNotebook.RESTING);
        Checks.same("RESTING", notebook.refresh(0), 1);
        Checks.same("last run", notebook.lastRun(1), 10);
    }

    private static void refreshRunsWhatHasNoLastRun() {
        Checks.sentence("Promise 13", "or has no last run");
        CellNotebook notebook = Notebooks.withCells(2);
        notebook.keep();
        Checks.same("cells never run, empty", notebook.refresh(0), 2);
        Checks.same("none of them again", notebook.refresh(0), 0);
        notebook.addCell();
        Checks.same("a cell added since", notebook.refresh(0), 1);
        notebook.restore(0);
        Checks.same("cells without a last run in the image", notebook.refresh(0), 3);
        notebook.end();
        Checks.same("last runs stay at the end of a session", notebook.refresh(0), 0);
    }

    private static void refreshLooksWhenATurnComes() {
        Checks.sentence("Promise 13", "when its turn comes");
        CellNotebook behind = Notebooks.withCells(2);
        Notebooks.program(behind, 0, "b=a+1");
        Notebooks.program(behind, 1, "a=1+1");
        Checks.same("refresh", behind.refresh(0), 2);
        Checks.same("made stale when its turn was over", behind.stale(), 1);
        Checks.same("refresh again", behind.refresh(0), 1);
        CellNotebook ahead = Notebooks.withCells(3);
        Notebooks.program(ahead, 0, "a=1+1");
        Notebooks.program(ahead, 1, "b=a+1");
        Notebooks.program(ahead, 2, "c=b+1");
        ahead.refresh(0);
        ahead.move(ahead.addCell(), 0);
        Notebooks.program(ahead, 3, "a=7+7");
        Checks.same("stale ahead of the refresh", ahead.stale(), 0);
        Checks.same("refresh of what it makes stale itself", ahead.refresh(0), 3);
        Checks.same("log", Notebooks.log(ahead), "1000 2010 3020 4030 5010 6020 ");
    }

    private static void refreshReturnsHowMany() {
        Checks.sentence("Promise 13", "Returns how many cells are run");
        Checks.same("without cells", new CellNotebook().refresh(0), 0);
        CellNotebook notebook = Notebooks.withCells(16);
        for (int cell = 0; cell < 16; cell++) {
            Notebooks.program(notebook, cell, cell % 2 == 0 ? "a=b+1" : "a=1+1");
        }
        Checks.same("16, half of which fail", notebook.refresh(0), 16);
        Checks.same("runs", notebook.runs(), 16);
        Checks.same("none", notebook.refresh(0), 0);
        Checks.same("none by a guest without rights", notebook.refresh(4), 0);
        Checks.same("runs", notebook.runs(), 16);
    }

    private static void refreshThrowsWithoutUser() {
        Checks.sentence("Promise 13", "Throws IndexOutOfBoundsException if there is no such user");
        CellNotebook notebook = Notebooks.withCells(2);
        for (int user : CallsBy.beyond(0, 4)) {
            Checks.outOfBounds("user " + user, notebook, () -> notebook.refresh(user));
        }
    }

    private static void refreshThrowsIfThereWereMoreThanThreeHundredEighty() {
        Checks.sentence("Promise 13", "Throws IllegalStateException if there were more than 380 runs");
        Checks.same("at 379 runs", withRuns(379).refresh(0), 16);
        Checks.same("at 380 runs", withRuns(380).refresh(0), 16);
        CellNotebook notebook = withRuns(381);
        Checks.illegalState("at 381 runs", notebook, () -> notebook.refresh(0));
        Checks.illegalState("at 381 runs, by a guest that may run none", notebook, () -> notebook.refresh(4));
        CellNotebook last = withRuns(400);
        Checks.illegalState("at 400 runs", last, () -> last.refresh(0));
        CellNotebook rested = Notebooks.withCells(1);
        for (int run = 0; run < 381; run++) {
            rested.run(0, 0);
        }
        Checks.illegalState("at 381 runs, with nothing to run", rested, () -> rested.refresh(0));
    }

    private static void refreshMayPassThreeHundredEighty() {
        Checks.sentence("Promise 13", "if there were more than 380 runs");
        CellNotebook notebook = withRuns(380);
        notebook.refresh(0);
        Checks.same("runs", notebook.runs(), 396);
        Checks.same("last run of the last cell", notebook.lastRun(15), 396);
        Checks.illegalState("again", notebook, () -> notebook.refresh(0));
        Checks.same("run", notebook.run(0, 0), true);
    }
}
