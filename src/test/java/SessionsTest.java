/** Promises 25 to 27: images that are kept and restored, and the end of a session. */
final class SessionsTest {
    private SessionsTest() {
    }

    public static void main(String[] args) {
        Checks.run(
                SessionsTest::imagesAreNumbered,
                SessionsTest::restoreMakesNamesAndLastRunsAsTheyWere,
                SessionsTest::restoreLeavesTheRest,
                SessionsTest::cellsThatWereNotThereHaveNoLastRun,
                SessionsTest::aChangeBehindARestoredRunIsStillSo,
                SessionsTest::restoredCellsRestOnRestoredRuns,
                SessionsTest::imagesStayAsTheyAre,
                SessionsTest::endUnsetsAllNames,
                SessionsTest::restoreRefuses);
        Checks.end();
    }

    private static void imagesAreNumbered() {
        CellNotebook notebook = new CellNotebook();
        for (int image = 0; image < 10; image++) {
            Checks.same("keep", notebook.keep(), image);
        }
        Checks.illegalState("an eleventh image", notebook, () -> notebook.keep());
        Checks.same("restore of the last image", notebook.restore(9), 0);
    }

    private static CellNotebook withThreeRuns() {
        CellNotebook notebook = Notebooks.withCells(2);
        Notebooks.program(notebook, 0, "a=1+1;b=a*5");
        Notebooks.program(notebook, 1, "a=a*a");
        notebook.run(0, 0);
        notebook.run(0, 1);
        notebook.keep();
        notebook.run(0, 1);
        return notebook;
    }

    private static void restoreMakesNamesAndLastRunsAsTheyWere() {
        CellNotebook notebook = withThreeRuns();
        notebook.clear(0, 0);
        Notebooks.program(notebook, 0, "h=1/0");
        notebook.run(0, 0);
        notebook.end();
        Checks.same("restore", notebook.restore(0), 2);
        Checks.same("value of a", notebook.value(Notebooks.A), 4);
        Checks.same("value of b", notebook.value(Notebooks.B), 10);
        Checks.same("stamp of a", notebook.stamp(Notebooks.A), 2);
        Checks.same("stamp of b", notebook.stamp(Notebooks.B), 1);
        Checks.same("last run of 0", notebook.lastRun(0), 1);
        Checks.same("last run of 1", notebook.lastRun(1), 2);
        Checks.same("result of 0", notebook.result(0, 0), 10);
        Checks.same("result of 1", notebook.result(0, 1), 4);
        Checks.same("seen by 1", notebook.seen(1), 1);
    }

    private static void restoreLeavesTheRest() {
        CellNotebook notebook = withThreeRuns();
        notebook.grant(2, 0, CellNotebook.RUN);
        notebook.move(1, 0);
        Notebooks.program(notebook, 1, "c=1+1");
        notebook.restore(0);
        Checks.same("right", notebook.right(2, 0), CellNotebook.RUN);
        Checks.same("order", Notebooks.order(notebook), "1 0 ");
        Checks.same("program", Notebooks.text(notebook, 1), "a=a*a\nc=1+1\n");
        Checks.same("log", Notebooks.log(notebook), "1000 2010 3010 ");
        Checks.same("runs", notebook.runs(), 3);
        Checks.same("times seen", notebook.timesSeen(Notebooks.A), 2);
        notebook.run(0, 0);
        Checks.same("the next run", notebook.lastRun(0), 4);
        notebook.forget(0);
        notebook.restore(0);
        Checks.same("runs that were forgotten stay so", Notebooks.log(notebook), "2010 4000 ");
        Checks.same("last run that was forgotten", notebook.lastRun(0), 1);
        Checks.same("its result", notebook.result(0, 0), 10);
    }

    private static void cellsThatWereNotThereHaveNoLastRun() {
        CellNotebook notebook = withThreeRuns();
        notebook.addCell();
        Notebooks.program(notebook, 2, "h=a+1");
        notebook.run(0, 2);
        Checks.same("restore", notebook.restore(0), 2);
        Checks.same("isSet", notebook.isSet(Notebooks.H), false);
        Checks.same("cellCount", notebook.cellCount(), 3);
        Checks.same("last run", notebook.lastRun(2), 0);
        Checks.same("result", notebook.hasResult(2), false);
        Checks.same("seen", notebook.seen(2), 0);
        Checks.same("why", notebook.why(2), 0);
    }

    private static void aChangeBehindARestoredRunIsStillSo() {
        CellNotebook notebook = Notebooks.withCells(2);
        Notebooks.program(notebook, 0, "a=1+1");
        notebook.run(0, 0);
        notebook.keep();
        Notebooks.program(notebook, 0, "a=2+2");
        notebook.run(0, 0);
        notebook.keep();
        Checks.same("why, run again", notebook.why(0), 0);
        notebook.restore(0);
        Checks.same("why, changed behind the restored run", notebook.why(0), CellNotebook.EDITED);
        notebook.restore(1);
        Checks.same("why, changed ahead of the restored run", notebook.why(0), 0);
        notebook.restore(0);
        notebook.run(0, 0);
        Checks.same("why, run again behind the restore", notebook.why(0), 0);
    }

    private static void restoredCellsRestOnRestoredRuns() {
        CellNotebook notebook = Notebooks.withCells(2);
        Notebooks.program(notebook, 0, "a=1+1");
        Notebooks.program(notebook, 1, "b=a+1");
        notebook.refresh(0);
        notebook.keep();
        notebook.run(0, 0);
        Checks.same("why", notebook.why(1), CellNotebook.CHANGED | CellNotebook.RESTING);
        notebook.restore(0);
        Checks.same("why, restored", notebook.why(1), 0);
        notebook.end();
        Checks.same("why, ended", notebook.why(1), CellNotebook.CHANGED);
        notebook.restore(0);
        Notebooks.program(notebook, 0, "a=1+1");
        Checks.same("why, restored and edited", notebook.why(1), CellNotebook.RESTING);
    }

    private static void imagesStayAsTheyAre() {
        CellNotebook notebook = withThreeRuns();
        Checks.same("restore", notebook.restore(0), 2);
        notebook.run(0, 1);
        notebook.end();
        Checks.same("keep", notebook.keep(), 1);
        Checks.same("restore again", notebook.restore(0), 2);
        Checks.same("value of a", notebook.value(Notebooks.A), 4);
        Checks.same("last run of 1", notebook.lastRun(1), 2);
        Checks.same("restore of the other", notebook.restore(1), 0);
        Checks.same("last run of 1", notebook.lastRun(1), 4);
    }

    private static void endUnsetsAllNames() {
        CellNotebook notebook = withThreeRuns();
        Checks.same("end", notebook.end(), 2);
        for (int name = 0; name < Notebooks.NAMES; name++) {
            Checks.same("isSet", notebook.isSet(name), false);
            Checks.same("stamp", notebook.stamp(name), 0);
        }
        Checks.illegalState("value", notebook, () -> notebook.value(Notebooks.A));
        Checks.same("last run stays", notebook.lastRun(1), 3);
        Checks.same("result stays", notebook.result(0, 1), 16);
        Checks.same("runs stay", notebook.runs(), 3);
        Checks.same("end again", notebook.end(), 0);
    }

    private static void restoreRefuses() {
        CellNotebook notebook = withThreeRuns();
        for (int image : new int[] {-1, 1, 10, Integer.MIN_VALUE, Integer.MAX_VALUE}) {
            Checks.outOfBounds("restore " + image, notebook, () -> notebook.restore(image));
        }
    }
}
