/** Promises 31 to 34: the count of runs and the log. */
final class LogTest {
    private LogTest() {
    }

    public static void main(String[] args) {
        Checks.run(
                LogTest::runsAreLogged,
                LogTest::forgetTakesOutRunsOfAUser,
                LogTest::forgetKeepsLastRuns,
                LogTest::lastRunsAreThoseOfNow,
                LogTest::refusals);
        Checks.end();
    }

    private static CellNotebook withRuns() {
        CellNotebook notebook = Notebooks.withCells(16);
        notebook.grant(4, 15, CellNotebook.RUN);
        notebook.grant(1, 15, CellNotebook.RUN);
        notebook.run(4, 15);
        notebook.run(0, 15);
        notebook.run(4, 15);
        notebook.run(1, 15);
        notebook.run(0, 0);
        notebook.run(0, 0);
        return notebook;
    }

    private static void runsAreLogged() {
        CellNotebook notebook = withRuns();
        Checks.same("runs", notebook.runs(), 6);
        Checks.same("logged", notebook.logged(), 6);
        Checks.same("log", Notebooks.log(notebook), "1154 2150 3154 4151 5000 6000 ");
    }

    private static void forgetTakesOutRunsOfAUser() {
        CellNotebook notebook = withRuns();
        Checks.same("forget 4", notebook.forget(4), 2);
        Checks.same("log", Notebooks.log(notebook), "2150 4151 5000 6000 ");
        Checks.same("logged", notebook.logged(), 4);
        Checks.same("runs", notebook.runs(), 6);
        Checks.same("forget 4 again", notebook.forget(4), 0);
        Checks.same("forget 3", notebook.forget(3), 0);
        notebook.run(0, 1);
        Checks.same("the next run", notebook.lastRun(1), 7);
        Checks.same("log", Notebooks.log(notebook), "2150 4151 5000 6000 7010 ");
    }

    private static void forgetKeepsLastRuns() {
        CellNotebook notebook = withRuns();
        Checks.same("forget 1", notebook.forget(1), 0);
        Checks.same("forget 0", notebook.forget(0), 2);
        Checks.same("log", Notebooks.log(notebook), "1154 3154 4151 6000 ");
        notebook.end();
        Checks.same("forget 0 behind the end of the session", notebook.forget(0), 0);
    }

    private static void lastRunsAreThoseOfNow() {
        CellNotebook notebook = withRuns();
        notebook.keep();
        notebook.run(0, 0);
        notebook.restore(0);
        Checks.same("forget 0", notebook.forget(0), 3);
        Checks.same("log", Notebooks.log(notebook), "1154 3154 4151 6000 ");
        notebook.run(0, 0);
        Checks.same("forget 0, 6 kept in an image alone", notebook.forget(0), 1);
        Checks.same("log", Notebooks.log(notebook), "1154 3154 4151 8000 ");
    }

    private static void refusals() {
        CellNotebook notebook = withRuns();
        notebook.forget(4);
        for (int place : new int[] {-1, 4, 5, Integer.MIN_VALUE, Integer.MAX_VALUE}) {
            Checks.outOfBounds("logAt " + place, notebook, () -> notebook.logAt(place));
        }
        for (int user : new int[] {-1, 5, Integer.MIN_VALUE, Integer.MAX_VALUE}) {
            Checks.outOfBounds("forget " + user, notebook, () -> notebook.forget(user));
        }
    }
}
