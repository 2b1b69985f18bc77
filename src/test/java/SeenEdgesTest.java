/** The boundary cases of promises 14 to 21: names, last runs, results and what was seen. */
final class SeenEdgesTest {
    private static final int PLUS = CellNotebook.PLUS;

    private SeenEdgesTest() {
    }

    public static void main(String[] args) {
        Checks.run(
                SeenEdgesTest::isSetTells,
                SeenEdgesTest::isSetThrows,
                SeenEdgesTest::valueIsThatOfTheName,
                SeenEdgesTest::valueThrowsWithoutName,
                SeenEdgesTest::valueThrowsIfUnset,
                SeenEdgesTest::stampIsTheRunThatHasSet,
                SeenEdgesTest::stampThrows,
                SeenEdgesTest::lastRunIsTheNumber,
                SeenEdgesTest::lastRunThrows,
                SeenEdgesTest::hasResultTells,
                SeenEdgesTest::hasResultThrows,
                SeenEdgesTest::resultIsThatOfTheLastRun,
                SeenEdgesTest::resultThrowsWithoutUserOrCell,
                SeenEdgesTest::resultThrowsWithoutSee,
                SeenEdgesTest::resultThrowsIfThereIsNone,
                SeenEdgesTest::seenIsASet,
                SeenEdgesTest::seenIsNothingWithoutALastRun,
                SeenEdgesTest::seenThrows,
                SeenEdgesTest::timesSeenCountsAllRuns,
                SeenEdgesTest::timesSeenCountsRunsNotReads,
                SeenEdgesTest::timesSeenThrows);
        Checks.end();
    }

    private static void isSetTells() {
        Checks.sentence("Promise 14", "Tells whether a name is set", "name: 0 to 7");
        for (int name = 0; name < Notebooks.NAMES; name++) {
            CellNotebook notebook = Notebooks.withCells(1);
            notebook.write(0, 0, name, PLUS, 600, 600);
            Checks.same("at first", notebook.isSet(name), false);
            notebook.run(0, 0);
            for (int other = 0; other < Notebooks.NAMES; other++) {
                Checks.same("isSet " + other + ", " + name + " is set to 0", notebook.isSet(other), other == name);
            }
            notebook.keep();
            notebook.end();
            Checks.same("behind the end", notebook.isSet(name), false);
            notebook.restore(0);
            Checks.same("restored", notebook.isSet(name), true);
        }
    }

    private static void isSetThrows() {
        Checks.sentence("Promise 14", "Throws IndexOutOfBoundsException if there is no such name");
        CellNotebook notebook = CallsBy.busyNotebook();
        for (int name : CallsBy.beyond(0, 7)) {
            Checks.outOfBounds("name " + name, notebook, () -> notebook.isSet(name));
        }
    }

    private static void valueIsThatOfTheName() {
        Checks.sentence("Promise 15", "Returns the value of a name", "name: 0 to 7");
        CellNotebook notebook = Notebooks.withPrograms("a=0-500;b=1-1;c=1+1;f=0-1;g=6+0;h=500+0");
        notebook.run(0, 0);
        Checks.same("the first name", notebook.value(Notebooks.A), -500);
        Checks.same("0", notebook.value(Notebooks.B), 0);
        Checks.same("a value below 0", notebook.value(Notebooks.F), -1);
        Checks.same("the last name but one", notebook.value(Notebooks.G), 6);
        Checks.same("the last name", notebook.value(Notebooks.H), 500);
    }

    private static void valueThrowsWithoutName() {
        Checks.sentence("Promise 15", "Throws IndexOutOfBoundsException if there is no such name");
        CellNotebook notebook = CallsBy.busyNotebook();
        for (int name : CallsBy.beyond(0, 7)) {
            Checks.outOfBounds("name " + name, notebook, () -> notebook.value(name));
        }
    }

    private static void valueThrowsIfUnset() {
        Checks.sentence("Promise 15", "Throws IllegalStateException if it is unset");
        CellNotebook notebook = Notebooks.withPrograms("a=1+1;h=a+1");
        Checks.illegalState("at first", notebook, () -> notebook.value(Notebooks.H));
        notebook.keep();
        notebook.run(0, 0);
        Checks.same("set", notebook.value(Notebooks.H), 3);
        Checks.illegalState("another name", notebook, () -> notebook.value(Notebooks.G));
        notebook.restore(0);
        Checks.illegalState("restored as unset", notebook, () -> notebook.value(Notebooks.H));
        notebook.run(0, 0);
        notebook.end();
        Checks.illegalState("behind the end", notebook, () -> notebook.value(Notebooks.H));
        Notebooks.programAnew(notebook, 0, "h=1+1;a=h/0");
        notebook.run(0, 0);
        Checks.illegalState("behind a run that failed", notebook, () -> notebook.value(Notebooks.H));
    }

    private static void stampIsTheRunThatHasSet() {
        Checks.sentence("Promise 16", "Returns the number of the run that has set it; 0 if it is unset",
                "name: 0 to 7");
        for (int name = 0; name < Notebooks.NAMES; name++) {
            CellNotebook notebook = Notebooks.withCells(2);
            Checks.same("at first", notebook.stamp(name), 0);
            notebook.write(0, 0, name, PLUS, 600, 600);
            notebook.run(0, 0);
            Checks.same("set by run 1", notebook.stamp(name), 1);
            notebook.run(0, 1);
            Checks.same("run 2 has not set it", notebook.stamp(name), 1);
            notebook.keep();
            notebook.run(0, 0);
            Checks.same("set again by run 3", notebook.stamp(name), 3);
            notebook.restore(0);
            Checks.same("restored", notebook.stamp(name), 1);
            notebook.end();
            Checks.same("behind the end", notebook.stamp(name), 0);
            notebook.run(0, 0);
            Checks.same("set by run 4", notebook.stamp(name), 4);
        }
    }

    private static void stampThrows() {
        Checks.sentence("Promise 16", "Throws IndexOutOfBoundsException if there is no such name");
        CellNotebook notebook = CallsBy.busyNotebook();
        for (int name : CallsBy.beyond(0, 7)) {
            Checks.outOfBounds("name " + name, notebook, () -> notebook.stamp(name));
        }
    }

    private static void lastRunIsTheNumber() {
        Checks.sentence("Promise 17", "Returns the number; 0 if it has none");
        CellNotebook notebook = Notebooks.withCells(16);
        Notebooks.program(notebook, 15, "a=1/0");
        Checks.same("none at first", notebook.lastRun(15), 0);
        notebook.keep();
        notebook.run(0, 15);
        Checks.same("the first run, though it failed", notebook.lastRun(15), 1);
        Checks.same("none of another cell", notebook.lastRun(0), 0);
        notebook.run(0, 15);
        Checks.same("the later run", notebook.lastRun(15), 2);
        notebook.clear(0, 15);
        notebook.forget(0);
        notebook.end();
        Checks.same("it stays", notebook.lastRun(15), 2);
        notebook.restore(0);
        Checks.same("none in the image", notebook.lastRun(15), 0);
    }

    private static void lastRunThrows() {
        Checks.sentence("Promise 17", "Throws IndexOutOfBoundsException if there is no such cell");
        CellNotebook notebook = Notebooks.withCells(2);
        for (int cell : CallsBy.beyond(0, 1)) {
            Checks.outOfBounds("cell " + cell, notebook, () -> notebook.lastRun(cell));
        }
    }

    private static void hasResultTells() {
        Checks.sentence("Promise 18", "Tells whether the last run of a cell has a result");
        CellNotebook notebook = Notebooks.withCells(16);
        Checks.same("no last run", notebook.hasResult(15), false);
        notebook.run(0, 15);
        Checks.same("an empty program", notebook.hasResult(15), false);
        Notebooks.programAnew(notebook, 15, "a=1-1");
        Checks.same("a program that is not yet run", notebook.hasResult(15), false);
        notebook.run(0, 15);
        Checks.same("a result of 0", notebook.hasResult(15), true);
        Checks.same("another cell", notebook.hasResult(0), false);
        notebook.keep();
        Notebooks.programAnew(notebook, 15, "a=1+1;b=1/0");
        notebook.run(0, 15);
        Checks.same("a run that failed", notebook.hasResult(15), false);
        notebook.restore(0);
        Checks.same("restored", notebook.hasResult(15), true);
    }

    private static void hasResultThrows() {
        Checks.sentence("Promise 18", "Throws IndexOutOfBoundsException if there is no such cell");
        CellNotebook notebook = Notebooks.withCells(2);
        for (int cell : CallsBy.beyond(0, 1)) {
            Checks.outOfBounds("cell " + cell, notebook, () -> notebook.hasResult(cell));
        }
    }

    private static void resultIsThatOfTheLastRun() {
        Checks.sentence("Promise 19", "Returns the result of the last run of a cell, stale or not", "user: 0 to 4");
        CellNotebook notebook = Notebooks.withCells(3);
        Notebooks.program(notebook, 0, "a=1+1");
        Notebooks.program(notebook, 1, "b=a+a");
        Notebooks.program(notebook, 2, "c=b*b");
        notebook.refresh(0);
        Checks.same("not stale", notebook.result(0, 2), 16);
        notebook.write(0, 0, 0, PLUS, 600, 600);
        Checks.same("RESTING", notebook.why(2), CellNotebook.RESTING);
        Checks.same("its result", notebook.result(0, 2), 16);
        notebook.end();
        Checks.same("CHANGED and RESTING", notebook.why(2), CellNotebook.CHANGED | CellNotebook.RESTING);
        Checks.same("its result", notebook.result(0, 2), 16);
        notebook.clear(0, 0);
        Checks.same("EDITED", notebook.why(0), CellNotebook.EDITED);
        for (int user = 0; user < Notebooks.USERS; user++) {
            if (user > 0) {
                notebook.grant(user, 0, CellNotebook.SEE);
            }
            Checks.same("its result for user " + user, notebook.result(user, 0), 2);
        }
    }

    private static void resultThrowsWithoutUserOrCell() {
        Checks.sentence("Promise 19", "Throws IndexOutOfBoundsException if there is no such user or cell");
        CellNotebook notebook = CallsBy.busyNotebook();
        for (int user : CallsBy.beyond(0, 4)) {
            Checks.outOfBounds("user " + user, notebook, () -> notebook.result(user, 0));
        }
        for (int cell : CallsBy.beyond(0, 15)) {
            Checks.outOfBounds("cell " + cell, notebook, () -> notebook.result(0, cell));
        }
    }

    private static void resultThrowsWithoutSee() {
        Checks.sentence("Promise 19", "Throws IllegalStateException if the user may not SEE the cell");
        CellNotebook notebook = CallsBy.busyNotebook();
        for (int user = 1; user < Notebooks.USERS; user++) {
            int guest = user;
            notebook.grant(guest, 15, CellNotebook.EDIT);
            notebook.grant(guest, 15, CellNotebook.NOTHING);
            Checks.illegalState("NOTHING", notebook, () -> notebook.result(guest, 15));
            for (int right = CellNotebook.SEE; right <= CellNotebook.EDIT; right++) {
                notebook.grant(guest, 15, right);
                Checks.same("result with right " + right, notebook.result(guest, 15), 16);
            }
        }
    }

    private static void resultThrowsIfThereIsNone() {
        Checks.sentence("Promise 19", "or there is no result");
        CellNotebook notebook = Notebooks.withCells(3);
        notebook.grant(4, 0, CellNotebook.SEE);
        Checks.illegalState("no last run", notebook, () -> notebook.result(0, 0));
        Checks.illegalState("no last run, for a guest", notebook, () -> notebook.result(4, 0));
        Notebooks.program(notebook, 1, "a=1+1;b=1/0");
        notebook.keep();
        notebook.refresh(0);
        Checks.illegalState("an empty program", notebook, () -> notebook.result(0, 0));
        Checks.illegalState("a run that failed", notebook, () -> notebook.result(0, 1));
        Notebooks.programAnew(notebook, 1, "a=1+1");
        Checks.illegalState("a program that is not yet run", notebook, () -> notebook.result(0, 1));
        notebook.run(0, 1);
        Checks.same("a result", notebook.result(0, 1), 2);
        notebook.restore(0);
        Checks.illegalState("no last run in the image", notebook, () -> notebook.result(0, 1));
    }

    private static void seenIsASet() {
        Checks.sentence("Promise 20", "Returns the set, bit n for the name n");
        for (int name = 0; name < Notebooks.NAMES; name++) {
            CellNotebook notebook = CallsBy.busyNotebook();
            notebook.clear(0, 15);
            notebook.write(0, 15, 0, PLUS, name, 600);
            notebook.run(0, 15);
            Checks.same("seen, left", notebook.seen(15), 1 << name);
            notebook.clear(0, 15);
            Checks.same("seen, cleared since", notebook.seen(15), 1 << name);
            notebook.write(0, 15, 0, PLUS, 600, name);
            notebook.run(0, 15);
            Checks.same("seen, right", notebook.seen(15), 1 << name);
        }
        CellNotebook notebook = CallsBy.busyNotebook();
        Notebooks.programAnew(notebook, 15, "a=a+b;a=c+d;a=e+f;a=g+h");
        notebook.run(0, 15);
        Checks.same("all names", notebook.seen(15), 255);
        Checks.same("none", notebook.seen(0), 0);
    }

    private static void seenIsNothingWithoutALastRun() {
        Checks.sentence("Promise 20", "0 if it has no last run");
        CellNotebook notebook = Notebooks.withPrograms("a=b+c");
        Checks.same("never run", notebook.seen(0), 0);
        notebook.keep();
        notebook.run(0, 0);
        Checks.same("run", notebook.seen(0), 2);
        notebook.restore(0);
        Checks.same("restored to no last run", notebook.seen(0), 0);
    }

    private static void seenThrows() {
        Checks.sentence("Promise 20", "Throws IndexOutOfBoundsException if there is no such cell");
        CellNotebook notebook = Notebooks.withCells(2);
        for (int cell : CallsBy.beyond(0, 1)) {
            Checks.outOfBounds("cell " + cell, notebook, () -> notebook.seen(cell));
        }
    }

    private static void timesSeenCountsAllRuns() {
        Checks.sentence("Promise 21", "Returns by how many runs a name was seen, of all that there were");
        CellNotebook notebook = Notebooks.withCells(2);
        Notebooks.program(notebook, 0, "a=1+1;b=h+1");
        Notebooks.program(notebook, 1, "h=1+1");
        Checks.same("without runs", notebook.timesSeen(Notebooks.H), 0);
        notebook.keep();
        notebook.run(0, 0);
        Checks.same("a run that failed", notebook.timesSeen(Notebooks.H), 1);
        notebook.run(0, 1);
        notebook.run(0, 0);
        Checks.same("another one of the same cell", notebook.timesSeen(Notebooks.H), 2);
        Checks.same("forget", notebook.forget(0), 1);
        Checks.same("runs that were forgotten", notebook.timesSeen(Notebooks.H), 2);
        notebook.restore(0);
        notebook.forget(0);
        Checks.same("runs that are no last runs", notebook.timesSeen(Notebooks.H), 2);
        notebook.end();
        notebook.clear(0, 0);
        Checks.same("behind the end", notebook.timesSeen(Notebooks.H), 2);
    }

    private static void timesSeenCountsRunsNotReads() {
        Checks.sentence("Promise 21", "Returns by how many runs a name was seen", "name: 0 to 7");
        for (int name = 0; name < Notebooks.NAMES; name++) {
            CellNotebook notebook = CallsBy.busyNotebook();
            notebook.clear(0, 0);
            notebook.write(0, 0, name, PLUS, name, name);
            notebook.write(0, 0, name, PLUS, name, name);
            notebook.run(0, 0);
            for (int other = 0; other < Notebooks.NAMES; other++) {
                Checks.same("times that " + other + " was seen", notebook.timesSeen(other), other == name ? 1 : 0);
            }
        }
        CellNotebook notebook = Notebooks.withPrograms("g=1+1;h=g*g;g=h+g");
        notebook.run(0, 0);
        Checks.same("set ahead in the run", notebook.timesSeen(Notebooks.G), 0);
    }

    private static void timesSeenThrows() {
        Checks.sentence("Promise 21", "Throws IndexOutOfBoundsException if there is no such name");
        CellNotebook notebook = CallsBy.busyNotebook();
        for (int name : CallsBy.beyond(0, 7)) {
            Checks.outOfBounds("name " + name, notebook, () -> notebook.timesSeen(name));
        }
    }
}
