/** The boundary cases of promises 22 to 24, and of what 'Terms' says of stale cells. */
final class StaleEdgesTest {
    private static final int EDITED = CellNotebook.EDITED;
    private static final int CHANGED = CellNotebook.CHANGED;
    private static final int RESTING = CellNotebook.RESTING;

    private StaleEdgesTest() {
    }

    public static void main(String[] args) {
        Checks.run(
                StaleEdgesTest::editedIfAStatementIsWritten,
                StaleEdgesTest::editedIfAllAreCleared,
                StaleEdgesTest::editedIfBehindTheLastRun,
                StaleEdgesTest::changedIfTheStampIsAnother,
                StaleEdgesTest::restingOnARunOfAnotherCell,
                StaleEdgesTest::restingWhateverTheStampIsNow,
                StaleEdgesTest::restingIfThatCellIsStale,
                StaleEdgesTest::restingIfThatRunIsNotTheLast,
                StaleEdgesTest::staleIfItHasALastRun,
                StaleEdgesTest::whyAddsTheReasons,
                StaleEdgesTest::whyIsNothingIfNotStale,
                StaleEdgesTest::whyThrows,
                StaleEdgesTest::staleIsASet,
                StaleEdgesTest::wouldBeStaleIfANameWasSet,
                StaleEdgesTest::wouldBeStaleAndAreNot,
                StaleEdgesTest::wouldBeStaleByARunOfNoCell,
                StaleEdgesTest::wouldBeStaleIsASet,
                StaleEdgesTest::wouldBeStaleThrows);
        Checks.end();
    }

    /** Cells that were run, each with one of the programs. */
    private static CellNotebook withRuns(String... programs) {
        CellNotebook notebook = Notebooks.withPrograms(programs);
        for (int cell = 0; cell < programs.length; cell++) {
            notebook.run(0, cell);
        }
        return notebook;
    }

    private static void edit(CellNotebook notebook, int cell) {
        Notebooks.program(notebook, cell, "h=0+0");
    }

    private static void editedIfAStatementIsWritten() {
        Checks.sentence("Terms", "EDITED, if its program was changed (a statement written");
        CellNotebook notebook = Notebooks.withCells(2);
        notebook.run(0, 0);
        Checks.same("run when empty", notebook.why(0), 0);
        for (int statement = 1; statement <= 6; statement++) {
            edit(notebook, 0);
            Checks.same("statement " + statement, notebook.why(0), EDITED);
            notebook.run(0, 0);
            Checks.same("run since", notebook.why(0), 0);
        }
        Checks.illegalState("a seventh statement", notebook, () -> edit(notebook, 0));
        Checks.same("a statement that is refused", notebook.why(0), 0);
        edit(notebook, 1);
        Checks.same("a statement of another cell", notebook.why(0), 0);
    }

    private static void editedIfAllAreCleared() {
        Checks.sentence("Terms", "or all cleared)");
        CellNotebook notebook = withRuns("a=1+1;a=2+2");
        notebook.clear(0, 0);
        Checks.same("cleared", notebook.why(0), EDITED);
        notebook.clear(0, 0);
        Checks.same("cleared again", notebook.why(0), EDITED);
        Notebooks.program(notebook, 0, "a=1+1;a=2+2");
        Checks.same("the same program again", notebook.why(0), EDITED);
        notebook.clear(0, 0);
        notebook.run(0, 0);
        Checks.same("run since", notebook.why(0), 0);
        notebook.clear(0, 0);
        Checks.same("nothing to clear", notebook.why(0), 0);
    }

    private static void editedIfBehindTheLastRun() {
        Checks.sentence("Terms", "behind its last run, that is, later than that was made");
        CellNotebook notebook = withRuns("a=1+1", "b=1+1");
        edit(notebook, 0);
        notebook.run(0, 1);
        Checks.same("a later run of another cell", notebook.why(0), EDITED);
        notebook.keep();
        notebook.run(0, 0);
        Checks.same("a later run of its own", notebook.why(0), 0);
        notebook.restore(0);
        Checks.same("the earlier run restored", notebook.why(0), EDITED);
        Notebooks.runAnew(notebook, 0, "a=1/0");
        Checks.same("a later run that failed", notebook.why(0), 0);
        edit(notebook, 0);
        Checks.same("changed behind a run that failed", notebook.why(0), EDITED);
        notebook.run(0, 0);
        notebook.forget(0);
        edit(notebook, 0);
        Checks.same("written when the runs ahead were forgotten", notebook.why(0), EDITED);
        notebook.run(0, 0);
        notebook.forget(0);
        notebook.clear(0, 0);
        Checks.same("cleared when the runs ahead were forgotten", notebook.why(0), EDITED);
    }

    private static void changedIfTheStampIsAnother() {
        Checks.sentence("Terms", "CHANGED, if a name that its last run has seen has another stamp now than was seen");
        CellNotebook notebook = withRuns("b=h+1", "h=1+1");
        Checks.same("unset when seen, set now", notebook.why(0), CHANGED);
        notebook.end();
        Checks.same("unset as when seen", notebook.why(0), 0);
        notebook.run(0, 1);
        Notebooks.runAnew(notebook, 0, "a=h+1");
        Checks.same("set as when seen", notebook.why(0), 0);
        notebook.keep();
        notebook.end();
        Checks.same("set when seen, unset now", notebook.why(0), CHANGED);
        notebook.run(0, 1);
        Checks.same("the same value, set by another run", notebook.why(0) & CHANGED, CHANGED);
        notebook.restore(0);
        Checks.same("the stamp as when seen, restored", notebook.why(0), 0);
        Notebooks.runAnew(notebook, 1, "h=1/0");
        Checks.same("a run that failed leaves the stamp", notebook.why(0) & CHANGED, 0);
        Notebooks.runAnew(notebook, 0, "a=h+1;h=a+1");
        Checks.same("the cell's own run", notebook.why(0) & CHANGED, CHANGED);
        Notebooks.runAnew(notebook, 0, "h=1+1;a=h+1");
        notebook.run(0, 1);
        Checks.same("a name read but not seen", notebook.why(0) & CHANGED, 0);
    }

    private static void restingOnARunOfAnotherCell() {
        Checks.sentence("Terms", "RESTING, if a name was seen by its last run with the stamp of a run of another cell");
        CellNotebook notebook = withRuns("a=1+1");
        Notebooks.runAnew(notebook, 0, "b=a+1");
        Checks.same("an earlier run of its own, that is not its last one", notebook.why(0), 0);
        edit(notebook, 0);
        Checks.same("an earlier run of its own, when it is stale", notebook.why(0), EDITED);
        CellNotebook unset = withRuns("b=a+1", "c=1+1");
        edit(unset, 1);
        Checks.same("a name seen unset", unset.why(0), 0);
        CellNotebook other = withRuns("a=1+1", "h=2+2", "b=a+1;c=h+1");
        Checks.same("two cells, none of them stale", other.why(2), 0);
        edit(other, 1);
        Checks.same("the second of two", other.why(2), RESTING);
        other.run(0, 1);
        other.run(0, 2);
        other.forget(0);
        Checks.same("none of them stale, the runs ahead forgotten", other.stale(), 0);
        other.run(0, 1);
        other.forget(0);
        Checks.same("the run it was set by forgotten", other.why(2), CHANGED | RESTING);
        Checks.same("stale", other.stale(), 1 << 2);
    }

    private static void restingWhateverTheStampIsNow() {
        Checks.sentence("Terms", "(whatever stamp it has now)");
        CellNotebook notebook = withRuns("a=1+1", "b=a+1", "a=2+2");
        Checks.same("set by a third cell", notebook.why(1), CHANGED);
        edit(notebook, 0);
        Checks.same("set by a third cell, the first one stale", notebook.why(1), CHANGED | RESTING);
        notebook.end();
        Checks.same("unset", notebook.why(1), CHANGED | RESTING);
        CellNotebook own = withRuns("a=1+1", "a=a+1");
        Checks.same("set by the cell itself", own.why(1), CHANGED);
        own.run(0, 0);
        Checks.same("set by the first again", own.why(1), CHANGED | RESTING);
    }

    private static void restingIfThatCellIsStale() {
        Checks.sentence("Terms", "and that cell is stale");
        CellNotebook edited = withRuns("a=1+1", "b=a+1", "c=b+1", "d=c+1");
        edit(edited, 0);
        Checks.same("EDITED", edited.why(1), RESTING);
        Checks.same("RESTING itself", edited.why(2), RESTING);
        Checks.same("RESTING itself", edited.why(3), RESTING);
        CellNotebook changed = withRuns("a=h+1", "h=1+1", "a=h+1", "b=a+1", "h=2+2");
        Checks.same("CHANGED", changed.why(2), CHANGED);
        Checks.same("resting on it", changed.why(3), RESTING);
        CellNotebook none = withRuns("a=1+1", "b=a+1");
        Checks.same("not stale", none.why(1), 0);
    }

    private static void restingIfThatRunIsNotTheLast() {
        Checks.sentence("Terms", "or that run is not its last one now");
        CellNotebook notebook = withRuns("a=1+1", "b=a+1");
        notebook.keep();
        Notebooks.runAnew(notebook, 0, "h=1+1");
        Checks.same("a later run", notebook.why(1), RESTING);
        Notebooks.runAnew(notebook, 0, "a=1/0");
        Checks.same("a later run that failed", notebook.why(1), RESTING);
        notebook.restore(0);
        Checks.same("restored, but edited since", notebook.why(1), RESTING);
        CellNotebook again = withRuns("a=1+1", "b=a+1");
        again.keep();
        again.run(0, 0);
        again.restore(0);
        Checks.same("the last one again", again.why(1), 0);
        CellNotebook without = Notebooks.withCells(2);
        without.keep();
        Notebooks.program(without, 0, "a=1+1");
        Notebooks.program(without, 1, "b=a+1");
        without.run(0, 0);
        without.run(0, 1);
        without.restore(0);
        Checks.same("no last run at all", without.stale(), 0);
        without.run(0, 0);
        without.run(0, 1);
        Checks.same("last runs again", without.stale(), 0);
    }

    private static void staleIfItHasALastRun() {
        Checks.sentence("Terms", "A cell is stale if it has a last run, and one of these applies");
        CellNotebook notebook = Notebooks.withCells(1);
        edit(notebook, 0);
        notebook.clear(0, 0);
        Checks.same("edited without a last run", notebook.why(0), 0);
        Checks.same("stale", notebook.stale(), 0);
        notebook.keep();
        notebook.run(0, 0);
        edit(notebook, 0);
        Checks.same("edited behind a last run", notebook.stale(), 1);
        notebook.restore(0);
        Checks.same("no last run any more", notebook.stale(), 0);
        Checks.same("why", notebook.why(0), 0);
    }

    private static void whyAddsTheReasons() {
        Checks.sentence("Promise 22", "Returns EDITED, CHANGED and RESTING, added, as far as they apply");
        CellNotebook notebook = withRuns("a=1+1", "b=a+1", "d=c+1");
        edit(notebook, 2);
        Checks.same("EDITED", notebook.why(2), 1);
        notebook.end();
        Checks.same("CHANGED", notebook.why(1), 2);
        edit(notebook, 1);
        Checks.same("EDITED and CHANGED", notebook.why(1), 3);
        edit(notebook, 0);
        Checks.same("all", notebook.why(1), 7);
        CellNotebook resting = withRuns("a=1+1", "b=a+1");
        edit(resting, 0);
        Checks.same("RESTING", resting.why(1), 4);
        edit(resting, 1);
        Checks.same("EDITED and RESTING", resting.why(1), 5);
        CellNotebook changed = withRuns("a=1+1", "b=a+1");
        changed.run(0, 0);
        Checks.same("CHANGED and RESTING", changed.why(1), 6);
        CellNotebook twice = withRuns("a=1+1;b=1+1", "c=a+b");
        twice.run(0, 0);
        Checks.same("by two names", twice.why(1), 6);
    }

    private static void whyIsNothingIfNotStale() {
        Checks.sentence("Promise 22", "0 if it is not stale");
        CellNotebook notebook = Notebooks.withCells(16);
        Checks.same("without a last run", notebook.why(15), 0);
        notebook.run(0, 15);
        Checks.same("an empty program", notebook.why(15), 0);
        Notebooks.runAnew(notebook, 15, "a=b+1");
        Checks.same("a run that failed", notebook.why(15), 0);
        Notebooks.runAnew(notebook, 15, "a=1+1");
        Checks.same("a run", notebook.why(15), 0);
        notebook.move(15, 0);
        notebook.grant(1, 15, CellNotebook.EDIT);
        notebook.forget(0);
        Checks.same("what makes no cell stale", notebook.why(15), 0);
    }

    private static void whyThrows() {
        Checks.sentence("Promise 22", "Throws IndexOutOfBoundsException if there is no such cell");
        CellNotebook notebook = withRuns("a=1+1", "b=a+1");
        for (int cell : CallsBy.beyond(0, 1)) {
            Checks.outOfBounds("cell " + cell, notebook, () -> notebook.why(cell));
        }
    }

    private static void staleIsASet() {
        Checks.sentence("Promise 23", "Returns the cells that are stale: a set, bit c for the cell c");
        Checks.same("without cells", new CellNotebook().stale(), 0);
        CellNotebook notebook = Notebooks.withCells(16);
        Checks.same("without runs", notebook.stale(), 0);
        notebook.refresh(0);
        notebook.move(15, 0);
        int due = 0;
        for (int cell = 15; cell >= 0; cell--) {
            edit(notebook, cell);
            due += 1 << cell;
            Checks.same("stale from cell " + cell, notebook.stale(), due);
        }
        Checks.same("all", notebook.stale(), 65535);
        notebook.run(0, 15);
        Checks.same("all but the last", notebook.stale(), 32767);
    }

    private static void wouldBeStaleIfANameWasSet() {
        Checks.sentence("Promise 24", "Returns the cells that would be stale", "name: 0 to 7");
        for (int name = 0; name < Notebooks.NAMES; name++) {
            CellNotebook notebook = Notebooks.withCells(16);
            int other = (name + 1) % Notebooks.NAMES;
            notebook.write(0, 14, other, CellNotebook.PLUS, name, 600);
            notebook.write(0, 15, name, CellNotebook.PLUS, 600, 600);
            notebook.write(0, 13, name, CellNotebook.PLUS, 600, name);
            notebook.run(0, 13);
            Checks.same("an unset name, seen by a run that failed", notebook.wouldBeStale(name), 1 << 13);
            notebook.run(0, 15);
            notebook.run(0, 14);
            Checks.same("a set name", notebook.wouldBeStale(name), 1 << 14);
            Checks.same("a name that was not seen", notebook.wouldBeStale(other), 0);
            Checks.same("a name that was not seen nor set", notebook.wouldBeStale((name + 2) % 8), 0);
        }
        CellNotebook chain = withRuns("a=1+1", "b=a+1", "c=b+1", "d=c+1", "e=f+1");
        Checks.same("what rests on it, too", chain.wouldBeStale(Notebooks.A), 14);
        Checks.same("from the middle on", chain.wouldBeStale(Notebooks.C), 8);
        Checks.same("from the end", chain.wouldBeStale(Notebooks.D), 0);
        Checks.same("without a last run", Notebooks.withCells(16).wouldBeStale(0), 0);
    }

    private static void wouldBeStaleAndAreNot() {
        Checks.sentence("Promise 24", "and are not");
        CellNotebook notebook = withRuns("a=1+1", "b=a+1", "c=b+a", "d=a+1");
        Checks.same("none is stale", notebook.wouldBeStale(Notebooks.A), 14);
        edit(notebook, 1);
        Checks.same("stale", notebook.stale(), 6);
        Checks.same("those that are stale left out", notebook.wouldBeStale(Notebooks.A), 8);
        Checks.same("none that is not stale", notebook.wouldBeStale(Notebooks.B), 0);
        notebook.run(0, 0);
        Checks.same("all that have seen it are stale", notebook.wouldBeStale(Notebooks.A), 0);
    }

    private static void wouldBeStaleByARunOfNoCell() {
        Checks.sentence("Promise 24", "if a name was set by a new run of no cell");
        CellNotebook notebook = withRuns("a=1+1", "b=a+1");
        Checks.same("the cell that has set it is not run", notebook.wouldBeStale(Notebooks.A), 2);
        String before = Notebooks.allAnswers(notebook);
        notebook.wouldBeStale(Notebooks.A);
        Checks.same("nothing is set", Notebooks.allAnswers(notebook), before);
        Notebooks.runAnew(notebook, 0, "b=a+1");
        Checks.same("seen from its own earlier run", notebook.wouldBeStale(Notebooks.A) & 1, 1);
        CellNotebook full = withRuns("a=1+1", "b=a+1");
        for (int run = 2; run < 400; run++) {
            full.run(0, 1);
        }
        Checks.same("though there were 400 runs", full.wouldBeStale(Notebooks.A), 2);
        full.end();
        Checks.same("stale once the session has ended", full.wouldBeStale(Notebooks.A), 0);
    }

    private static void wouldBeStaleIsASet() {
        Checks.sentence("Promise 24", "Returns the set");
        CellNotebook notebook = Notebooks.withCells(16);
        for (int cell = 0; cell < 16; cell++) {
            notebook.write(0, cell, Notebooks.B, CellNotebook.PLUS, Notebooks.H, 601);
            notebook.run(0, cell);
            Checks.same("cells to " + cell, notebook.wouldBeStale(Notebooks.H), (1 << cell + 1) - 1);
        }
        Checks.same("stale", notebook.stale(), 0);
    }

    private static void wouldBeStaleThrows() {
        Checks.sentence("Promise 24", "Throws IndexOutOfBoundsException if there is no such name");
        CellNotebook notebook = withRuns("a=1+1", "b=a+1");
        for (int name : CallsBy.beyond(0, 7)) {
            Checks.outOfBounds("name " + name, notebook, () -> notebook.wouldBeStale(name));
        }
    }
}
