/** The boundary cases of promises 31 to 34: the count of runs and the log. */
final class LogEdgesTest {
    private LogEdgesTest() {
    }

    public static void main(String[] args) {
        Checks.run(
                LogEdgesTest::runsCountsAll,
                LogEdgesTest::runsIncludesThoseThatAreForgotten,
                LogEdgesTest::loggedCountsTheLog,
                LogEdgesTest::logAtBeginsWithTheEarliest,
                LogEdgesTest::logAtAddsNumberCellAndUser,
                LogEdgesTest::logAtThrowsIfThereAreNotSoMany,
                LogEdgesTest::logAtThrowsBelowZero,
                LogEdgesTest::forgetTakesAllRunsOfAUser,
                LogEdgesTest::forgetSparesLastRuns,
                LogEdgesTest::forgetReturnsHowMany,
                LogEdgesTest::forgetThrows);
        Checks.end();
    }

    /** The last of 16 cells, which all users may RUN, run by each of them so often. */
    private static CellNotebook withRunsByAll(int rounds) {
        CellNotebook notebook = Notebooks.withCells(16);
        for (int guest = 1; guest < Notebooks.USERS; guest++) {
            notebook.grant(guest, 15, CellNotebook.RUN);
        }
        for (int run = 0; run < rounds * Notebooks.USERS; run++) {
            notebook.run(run % Notebooks.USERS, 15);
        }
        return notebook;
    }

    private static void runsCountsAll() {
        Checks.sentence("Promise 31", "Returns how many runs there were");
        CellNotebook notebook = Notebooks.withCells(2);
        Notebooks.program(notebook, 1, "a=1/0");
        Checks.same("at first", notebook.runs(), 0);
        notebook.run(0, 1);
        Checks.same("with one that failed", notebook.runs(), 1);
        notebook.refresh(0);
        Checks.same("with those of a refresh", notebook.runs(), 2);
        Checks.illegalState("a run that is refused", notebook, () -> notebook.run(1, 0));
        notebook.unlikeInOrder();
        Checks.same("no others", notebook.runs(), 2);
        for (int run = 2; run < 400; run++) {
            notebook.run(0, 0);
        }
        Checks.same("all that may be", notebook.runs(), 400);
    }

    private static void runsIncludesThoseThatAreForgotten() {
        Checks.sentence("Promise 31", "those that are not in the log any more included");
        CellNotebook notebook = withRunsByAll(2);
        notebook.forget(0);
        notebook.forget(1);
        Checks.same("runs", notebook.runs(), 10);
        notebook.run(0, 15);
        Checks.same("number of the next run", notebook.lastRun(15), 11);
        Checks.same("runs", notebook.runs(), 11);
    }

    private static void loggedCountsTheLog() {
        Checks.sentence("Promise 32", "Returns how many runs are in the log");
        CellNotebook notebook = withRunsByAll(0);
        Checks.same("at first", notebook.logged(), 0);
        for (int run = 1; run <= 400; run++) {
            notebook.run(run % 2, 15);
        }
        Checks.same("all that may be", notebook.logged(), 400);
        notebook.forget(1);
        Checks.same("without those of a user", notebook.logged(), 200);
        notebook.forget(0);
        Checks.same("the last run alone", notebook.logged(), 1);
    }

    private static void logAtBeginsWithTheEarliest() {
        Checks.sentence("Promise 33", "place: 0 for the earliest one that is in it");
        CellNotebook notebook = withRunsByAll(2);
        Checks.same("the first run", notebook.logAt(0), 1150);
        notebook.forget(0);
        Checks.same("the second run", notebook.logAt(0), 2151);
        notebook.forget(2);
        Checks.same("the fourth run behind the second", notebook.logAt(1), 4153);
        Checks.same("log", Notebooks.log(notebook), "2151 4153 5154 7151 9153 10154 ");
    }

    private static void logAtAddsNumberCellAndUser() {
        Checks.sentence("Promise 33", "Returns 1000 times the number of the run, 10 times the cell, and the user, "
                + "added");
        CellNotebook notebook = withRunsByAll(79);
        for (int run = 1; run < 5; run++) {
            notebook.run(0, 0);
        }
        notebook.run(4, 15);
        Checks.same("the lowest cell and user", notebook.logAt(395), 396000);
        Checks.same("the highest cell and user", notebook.logAt(399), 400154);
        Checks.same("the first run", notebook.logAt(0), 1150);
    }

    private static void logAtThrowsIfThereAreNotSoMany() {
        Checks.sentence("Promise 33", "Throws IndexOutOfBoundsException if there are not so many");
        CellNotebook notebook = withRunsByAll(0);
        Checks.outOfBounds("an empty log", notebook, () -> notebook.logAt(0));
        notebook.run(0, 15);
        notebook.run(0, 15);
        Checks.same("the last one", notebook.logAt(1), 2150);
        for (int place : new int[] {2, 3, 1000, Integer.MAX_VALUE}) {
            Checks.outOfBounds("place " + place, notebook, () -> notebook.logAt(place));
        }
        notebook.forget(0);
        Checks.outOfBounds("the place of one that is forgotten", notebook, () -> notebook.logAt(1));
    }

    private static void logAtThrowsBelowZero() {
        Checks.sentence("Promise 33", "or place is below 0");
        CellNotebook notebook = withRunsByAll(1);
        for (int place : new int[] {-1, -5, Integer.MIN_VALUE}) {
            Checks.outOfBounds("place " + place, notebook, () -> notebook.logAt(place));
        }
    }

    private static void forgetTakesAllRunsOfAUser() {
        Checks.sentence("Promise 34", "Takes all runs of a user out of the log", "user: 0 to 4");
        for (int user = 0; user < Notebooks.USERS; user++) {
            CellNotebook notebook = withRunsByAll(3);
            notebook.run(0, 0);
            notebook.run(0, 15);
            int taken = notebook.forget(user);
            for (int place = 0; place < notebook.logged(); place++) {
                boolean isUsers = notebook.logAt(place) % 10 == user;
                Checks.same("only last runs of the user", isUsers, user == 0 && place >= notebook.logged() - 2);
            }
            Checks.same("no others are taken", notebook.logged() + taken, 17);
            Checks.same("how many", taken, 3);
        }
    }

    private static void forgetSparesLastRuns() {
        Checks.sentence("Promise 34", "but those that are last runs of cells");
        CellNotebook notebook = Notebooks.withCells(16);
        notebook.refresh(0);
        Checks.same("last runs alone", notebook.forget(0), 0);
        notebook.keep();
        notebook.run(0, 0);
        notebook.run(0, 15);
        notebook.end();
        Checks.same("the runs ahead of them", notebook.forget(0), 2);
        notebook.restore(0);
        Checks.same("runs that are no last runs any more", notebook.forget(0), 2);
        Checks.same("logged", notebook.logged(), 14);
        Checks.same("last runs that are not in the log", notebook.lastRun(15), 16);
        notebook.clear(0, 1);
        notebook.write(0, 1, 0, CellNotebook.PLUS, 600, 600);
        Checks.same("a stale cell's last run", notebook.forget(0), 0);
    }

    private static void forgetReturnsHowMany() {
        Checks.sentence("Promise 34", "Returns how many");
        Checks.same("without runs", new CellNotebook().forget(0), 0);
        CellNotebook notebook = withRunsByAll(80);
        for (int user = 0; user < 4; user++) {
            Checks.same("forget " + user, notebook.forget(user), 80);
            Checks.same("forget " + user + " again", notebook.forget(user), 0);
        }
        Checks.same("forget 4, whose last run is the cell's", notebook.forget(4), 79);
    }

    private static void forgetThrows() {
        Checks.sentence("Promise 34", "Throws IndexOutOfBoundsException if there is no such user");
        CellNotebook notebook = withRunsByAll(2);
        for (int user : CallsBy.beyond(0, 4)) {
            Checks.outOfBounds("user " + user, notebook, () -> notebook.forget(user));
        }
    }
}
