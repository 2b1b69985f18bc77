/** Promises 22 to 24: why cells are stale, which are, and which would be. */
final class StaleTest {
    private static final int EDITED = CellNotebook.EDITED;
    private static final int CHANGED = CellNotebook.CHANGED;
    private static final int RESTING = CellNotebook.RESTING;

    private StaleTest() {
    }

    public static void main(String[] args) {
        Checks.run(
                StaleTest::aCellWithoutALastRunIsNotStale,
                StaleTest::editedByWriteAndByClear,
                StaleTest::editedIsOverWithARun,
                StaleTest::changedByAnotherStamp,
                StaleTest::changedThoughTheValueIsTheSame,
                StaleTest::restingOnAStaleCell,
                StaleTest::restingOnARunThatIsNotTheLast,
                StaleTest::restingWhateverTheStampIsNow,
                StaleTest::notRestingOnItself,
                StaleTest::aCellRestsOnARunThatFailed,
                StaleTest::chainsOfAllCells,
                StaleTest::wouldBeStaleIsChangedAndWhatRestsOnIt,
                StaleTest::wouldBeStaleLeavesOutWhatIsStale,
                StaleTest::refusals);
        Checks.end();
    }

    private static CellNotebook chain(int cells) {
        CellNotebook notebook = Notebooks.withCells(cells);
        Notebooks.program(notebook, 0, "a=1+1");
        for (int cell = 1; cell < cells; cell++) {
            notebook.write(0, cell, cell % 8, CellNotebook.PLUS, (cell - 1) % 8, 601);
        }
        for (int cell = 0; cell < cells; cell++) {
            notebook.run(0, cell);
        }
        return notebook;
    }

    private static void aCellWithoutALastRunIsNotStale() {
        CellNotebook notebook = Notebooks.withCells(2);
        Notebooks.program(notebook, 0, "a=b+1");
        notebook.clear(0, 0);
        Notebooks.program(notebook, 1, "b=1+1");
        notebook.run(0, 1);
        Checks.same("why", notebook.why(0), 0);
        Checks.same("stale", notebook.stale(), 0);
    }

    private static void editedByWriteAndByClear() {
        CellNotebook notebook = chain(1);
        Checks.same("why after a run", notebook.why(0), 0);
        Notebooks.program(notebook, 0, "a=1+1");
        Checks.same("why after a write", notebook.why(0), EDITED);
        notebook.run(0, 0);
        notebook.clear(0, 0);
        Checks.same("why after a clear", notebook.why(0), EDITED);
        Notebooks.program(notebook, 0, "a=1+1;a=1+1");
        Checks.same("why with the same program again", notebook.why(0), EDITED);
        Checks.same("stale", notebook.stale(), 1);
    }

    private static void editedIsOverWithARun() {
        CellNotebook notebook = chain(2);
        Notebooks.program(notebook, 1, "c=1+1");
        notebook.run(0, 0);
        Checks.same("a run of another cell", notebook.why(1) & EDITED, EDITED);
        notebook.run(0, 1);
        Checks.same("its own run", notebook.why(1), 0);
        Notebooks.program(notebook, 1, "c=d+1");
        notebook.run(0, 1);
        Checks.same("its own run, that fails", notebook.why(1), 0);
    }

    private static void changedByAnotherStamp() {
        CellNotebook notebook = Notebooks.withCells(2);
        Notebooks.program(notebook, 0, "b=a+1");
        Notebooks.program(notebook, 1, "a=1+1");
        notebook.run(0, 0);
        Checks.same("why, unset", notebook.why(0), 0);
        notebook.run(0, 1);
        Checks.same("why, set then", notebook.why(0), CHANGED);
        notebook.run(0, 0);
        Checks.same("why, seen", notebook.why(0), 0);
        notebook.end();
        Checks.same("why, unset then", notebook.why(0), CHANGED);
    }

    private static void changedThoughTheValueIsTheSame() {
        CellNotebook notebook = chain(2);
        notebook.run(0, 0);
        Checks.same("why", notebook.why(1), CHANGED | RESTING);
        Checks.same("stale", notebook.stale(), 2);
    }

    private static void restingOnAStaleCell() {
        CellNotebook notebook = chain(3);
        Notebooks.program(notebook, 0, "h=0+0");
        Checks.same("why of the first", notebook.why(0), EDITED);
        Checks.same("why of the second", notebook.why(1), RESTING);
        Checks.same("why of the third", notebook.why(2), RESTING);
        Checks.same("stale", notebook.stale(), 7);
    }

    private static void restingOnARunThatIsNotTheLast() {
        CellNotebook notebook = chain(2);
        notebook.clear(0, 0);
        Notebooks.program(notebook, 0, "h=0+0");
        notebook.run(0, 0);
        Checks.same("why of the first", notebook.why(0), 0);
        Checks.same("why of the second: a is as it was", notebook.why(1), RESTING);
    }

    private static void restingWhateverTheStampIsNow() {
        CellNotebook notebook = chain(2);
        Notebooks.program(notebook, 0, "a=1+1");
        notebook.end();
        Checks.same("why, unset and edited", notebook.why(1), CHANGED | RESTING);
        CellNotebook other = chain(3);
        other.clear(0, 2);
        Notebooks.program(other, 2, "a=3+3");
        other.run(0, 2);
        Checks.same("why, set by a third cell", other.why(1), CHANGED);
        Notebooks.program(other, 0, "a=1+1");
        Checks.same("why, set by a third cell, and the source edited", other.why(1), CHANGED | RESTING);
    }

    private static void notRestingOnItself() {
        CellNotebook notebook = chain(2);
        Notebooks.program(notebook, 0, "a=a+1");
        notebook.run(0, 0);
        notebook.clear(0, 0);
        Notebooks.program(notebook, 0, "b=a+1");
        notebook.run(0, 0);
        Checks.same("the stamp of an earlier run of its own", notebook.why(0), 0);
        notebook.clear(0, 0);
        Notebooks.program(notebook, 0, "a=a+1");
        notebook.run(0, 0);
        Checks.same("a name that it has seen and set", notebook.why(0), CHANGED);
    }

    private static void aCellRestsOnARunThatFailed() {
        CellNotebook notebook = chain(2);
        notebook.clear(0, 1);
        Notebooks.program(notebook, 1, "b=a/0");
        notebook.run(0, 1);
        Checks.same("why of a run that fails", notebook.why(1), 0);
        Notebooks.program(notebook, 0, "a=h+1");
        notebook.run(0, 0);
        Checks.same("why, its source failed since", notebook.why(1), RESTING);
    }

    private static void chainsOfAllCells() {
        CellNotebook notebook = chain(8);
        CellNotebook full = Notebooks.withCells(16);
        for (int cell = 15; cell >= 0; cell--) {
            full.write(0, cell, 0, CellNotebook.PLUS, cell == 15 ? 600 : 0, 601);
            full.run(0, cell);
        }
        Checks.same("all but the last have seen what is changed", full.stale(), (1 << 15) - 1);
        notebook.write(0, 0, 0, CellNotebook.PLUS, 600, 600);
        Checks.same("all rest on the first", notebook.stale(), 255);
        Checks.same("one place in the order is as good as another", notebook.move(7, 0), 7);
        Checks.same("all rest on the first", notebook.stale(), 255);
    }

    private static void wouldBeStaleIsChangedAndWhatRestsOnIt() {
        CellNotebook notebook = chain(4);
        Checks.same("would be stale, a", notebook.wouldBeStale(Notebooks.A), 14);
        Checks.same("would be stale, b", notebook.wouldBeStale(Notebooks.B), 12);
        Checks.same("would be stale, c", notebook.wouldBeStale(Notebooks.C), 8);
        Checks.same("would be stale, d", notebook.wouldBeStale(Notebooks.D), 0);
        Checks.same("nothing is set", notebook.stamp(Notebooks.D), 4);
        Checks.same("nothing is stale", notebook.stale(), 0);
        for (int cell = 0; cell < 4; cell++) {
            Checks.same("why of what would be stale", notebook.why(cell), 0);
        }
        Notebooks.program(notebook, 3, "e=f+1");
        notebook.run(0, 3);
        Checks.same("would be stale, an unset name that was seen", notebook.wouldBeStale(Notebooks.F), 8);
    }

    private static void wouldBeStaleLeavesOutWhatIsStale() {
        CellNotebook notebook = chain(4);
        Notebooks.program(notebook, 2, "h=0+0");
        Checks.same("stale", notebook.stale(), 12);
        Checks.same("would be stale, a", notebook.wouldBeStale(Notebooks.A), 2);
        Checks.same("would be stale, b", notebook.wouldBeStale(Notebooks.B), 0);
    }

    private static void refusals() {
        CellNotebook notebook = chain(2);
        for (int number : new int[] {-1, 8, 16, Integer.MIN_VALUE, Integer.MAX_VALUE}) {
            Checks.outOfBounds("why " + number, notebook, () -> notebook.why(number));
            Checks.outOfBounds("wouldBeStale " + number, notebook, () -> notebook.wouldBeStale(number));
        }
        Checks.outOfBounds("why of the next cell", notebook, () -> notebook.why(2));
    }
}
