/** The boundary cases of promises 25 to 27, and of what 'Terms' says of images and the end of a session. */
final class SessionsEdgesTest {
    private static final String ALL_NAMES_FIRST = "a=0+1;b=0+2;c=0+3;d=0+4";
    private static final String ALL_NAMES_LAST = "e=0+5;f=0+6;g=0+7;h=0+8";

    private SessionsEdgesTest() {
    }

    public static void main(String[] args) {
        Checks.run(
                SessionsEdgesTest::anImageKeepsValues,
                SessionsEdgesTest::anImageKeepsStamps,
                SessionsEdgesTest::anImageKeepsLastRuns,
                SessionsEdgesTest::cellsThatWereNotThenHaveNoLastRun,
                SessionsEdgesTest::programsStay,
                SessionsEdgesTest::rightsStay,
                SessionsEdgesTest::theOrderStays,
                SessionsEdgesTest::theLogStays,
                SessionsEdgesTest::theCountOfRunsStays,
                SessionsEdgesTest::changedBehindARunIsStillSo,
                SessionsEdgesTest::endUnsetsAllNames,
                SessionsEdgesTest::lastRunsStay,
                SessionsEdgesTest::keepReturnsItsNumber,
                SessionsEdgesTest::keepThrowsIfThereAreTen,
                SessionsEdgesTest::restoreTakesAllImages,
                SessionsEdgesTest::restoreReturnsHowManyAreSet,
                SessionsEdgesTest::restoreThrows,
                SessionsEdgesTest::endReturnsHowManyWereSet);
        Checks.end();
    }

    /** Two cells that were run and set all names. */
    private static CellNotebook withAllNamesSet() {
        CellNotebook notebook = Notebooks.withCells(2);
        Notebooks.program(notebook, 0, ALL_NAMES_FIRST);
        Notebooks.program(notebook, 1, ALL_NAMES_LAST);
        notebook.refresh(0);
        return notebook;
    }

    private static void anImageKeepsValues() {
        Checks.sentence("Terms", "An image keeps the values", "To restore it is to make these as they were then");
        CellNotebook notebook = withAllNamesSet();
        notebook.keep();
        Notebooks.runAnew(notebook, 0, "a=0+0;h=0+0;c=9+9");
        notebook.keep();
        notebook.restore(0);
        for (int name = 0; name < Notebooks.NAMES; name++) {
            Checks.same("value of " + name, notebook.value(name), name + 1);
        }
        notebook.end();
        notebook.restore(1);
        Checks.same("value of a, as 0", notebook.value(Notebooks.A), 0);
        Checks.same("value of b", notebook.value(Notebooks.B), 2);
        Checks.same("value of h, as 0", notebook.value(Notebooks.H), 0);
    }

    private static void anImageKeepsStamps() {
        Checks.sentence("Terms", "and stamps of all names");
        CellNotebook notebook = withAllNamesSet();
        notebook.keep();
        notebook.run(0, 1);
        notebook.run(0, 0);
        notebook.keep();
        notebook.restore(0);
        for (int name = 0; name < Notebooks.NAMES; name++) {
            Checks.same("stamp of " + name, notebook.stamp(name), name < 4 ? 1 : 2);
        }
        notebook.end();
        notebook.keep();
        notebook.restore(1);
        for (int name = 0; name < Notebooks.NAMES; name++) {
            Checks.same("stamp of " + name, notebook.stamp(name), name < 4 ? 4 : 3);
        }
        notebook.restore(2);
        for (int name = 0; name < Notebooks.NAMES; name++) {
            Checks.same("stamp of " + name + ", unset", notebook.stamp(name), 0);
            Checks.same("isSet of " + name, notebook.isSet(name), false);
        }
    }

    private static void anImageKeepsLastRuns() {
        Checks.sentence("Terms", "and the last runs of all cells");
        CellNotebook notebook = Notebooks.withCells(16);
        Notebooks.program(notebook, 0, "a=1+1");
        Notebooks.program(notebook, 15, "b=a+a");
        notebook.refresh(0);
        notebook.keep();
        Notebooks.runAnew(notebook, 0, "b=b+1");
        Notebooks.runAnew(notebook, 15, "c=h+1");
        Checks.same("no result now", notebook.hasResult(15), false);
        notebook.restore(0);
        for (int cell = 0; cell < 16; cell++) {
            Checks.same("last run of " + cell, notebook.lastRun(cell), cell + 1);
        }
        Checks.same("result then", notebook.result(0, 15), 4);
        Checks.same("seen then", notebook.seen(15), 1);
        Checks.same("seen then, none", notebook.seen(0), 0);
    }

    private static void cellsThatWereNotThenHaveNoLastRun() {
        Checks.sentence("Terms", "(cells that were not there then have none)");
        CellNotebook notebook = new CellNotebook();
        notebook.keep();
        for (int cell = 0; cell < 16; cell++) {
            notebook.addCell();
            Notebooks.program(notebook, cell, "a=1+1");
        }
        notebook.refresh(0);
        notebook.restore(0);
        for (int cell = 0; cell < 16; cell++) {
            Checks.same("last run of " + cell, notebook.lastRun(cell), 0);
            Checks.same("result of " + cell, notebook.hasResult(cell), false);
        }
        Checks.same("cellCount", notebook.cellCount(), 16);
        Checks.same("stale", notebook.stale(), 0);
        Checks.same("forget then", notebook.forget(0), 16);
    }

    private static void programsStay() {
        Checks.sentence("Terms", "programs");
        CellNotebook notebook = withAllNamesSet();
        notebook.keep();
        notebook.clear(0, 0);
        Notebooks.program(notebook, 1, "a=1+1");
        notebook.restore(0);
        Checks.same("cleared since", Notebooks.text(notebook, 0), "");
        Checks.same("written since", Notebooks.text(notebook, 1), "e=0+5\nf=0+6\ng=0+7\nh=0+8\na=1+1\n");
    }

    private static void rightsStay() {
        Checks.sentence("Terms", "rights");
        CellNotebook notebook = Notebooks.withCells(1);
        notebook.grant(1, 0, CellNotebook.EDIT);
        notebook.keep();
        notebook.grant(1, 0, CellNotebook.NOTHING);
        notebook.grant(4, 0, CellNotebook.RUN);
        notebook.restore(0);
        Checks.same("taken since", notebook.right(1, 0), CellNotebook.NOTHING);
        Checks.same("given since", notebook.right(4, 0), CellNotebook.RUN);
    }

    private static void theOrderStays() {
        Checks.sentence("Terms", "the order");
        CellNotebook notebook = Notebooks.withCells(3);
        notebook.keep();
        notebook.move(2, 0);
        notebook.addCell();
        notebook.restore(0);
        Checks.same("order", Notebooks.order(notebook), "2 0 1 3 ");
    }

    private static void theLogStays() {
        Checks.sentence("Terms", "the log");
        CellNotebook notebook = Notebooks.withCells(2);
        notebook.run(0, 0);
        notebook.run(0, 1);
        notebook.keep();
        notebook.run(0, 0);
        notebook.restore(0);
        Checks.same("with a run made since", Notebooks.log(notebook), "1000 2010 3000 ");
        notebook.run(0, 0);
        notebook.forget(0);
        notebook.restore(0);
        Checks.same("without runs forgotten since", Notebooks.log(notebook), "2010 4000 ");
        Checks.same("one of them is a last run again", notebook.lastRun(0), 1);
    }

    private static void theCountOfRunsStays() {
        Checks.sentence("Terms", "and the count of runs stay as they are");
        CellNotebook notebook = Notebooks.withCells(1);
        notebook.keep();
        notebook.run(0, 0);
        notebook.run(0, 0);
        notebook.restore(0);
        Checks.same("runs", notebook.runs(), 2);
        notebook.run(0, 0);
        Checks.same("number of the next run", notebook.lastRun(0), 3);
    }

    private static void changedBehindARunIsStillSo() {
        Checks.sentence("Terms", "and whether a program was changed behind a run is still so");
        CellNotebook notebook = Notebooks.withCells(1);
        Notebooks.runAnew(notebook, 0, "a=1+1");
        notebook.keep();
        Notebooks.runAnew(notebook, 0, "a=2+2");
        notebook.keep();
        notebook.restore(0);
        Checks.same("changed behind the run of the first image", notebook.why(0), CellNotebook.EDITED);
        notebook.restore(1);
        Checks.same("not changed behind that of the second", notebook.why(0), 0);
        notebook.clear(0, 0);
        notebook.restore(1);
        Checks.same("changed behind the image", notebook.why(0), CellNotebook.EDITED);
        notebook.run(0, 0);
        Checks.same("run since", notebook.why(0), 0);
        notebook.restore(1);
        Checks.same("the earlier run again", notebook.why(0), CellNotebook.EDITED);
        CellNotebook edited = Notebooks.withCells(1);
        Notebooks.runAnew(edited, 0, "a=1+1");
        edited.clear(0, 0);
        edited.keep();
        edited.run(0, 0);
        edited.restore(0);
        Checks.same("changed ahead of the image, run since", edited.why(0), CellNotebook.EDITED);
    }

    private static void endUnsetsAllNames() {
        Checks.sentence("Terms", "To end the session is to unset all names");
        CellNotebook notebook = withAllNamesSet();
        notebook.end();
        for (int name = 0; name < Notebooks.NAMES; name++) {
            int unset = name;
            Checks.same("isSet", notebook.isSet(name), false);
            Checks.same("stamp", notebook.stamp(name), 0);
            Checks.illegalState("value", notebook, () -> notebook.value(unset));
        }
        Notebooks.runAnew(notebook, 0, "a=b+1");
        Checks.same("a run that reads a name that was set", notebook.hasResult(0), false);
    }

    private static void lastRunsStay() {
        Checks.sentence("Terms", "last runs stay");
        CellNotebook notebook = withAllNamesSet();
        Notebooks.runAnew(notebook, 1, "b=a+a");
        notebook.end();
        Checks.same("last run", notebook.lastRun(0), 1);
        Checks.same("last run of the other", notebook.lastRun(1), 3);
        Checks.same("result", notebook.result(0, 1), 2);
        Checks.same("seen", notebook.seen(1), 1);
        Checks.same("stale as what it has seen is unset", notebook.stale(), 2);
        Checks.same("runs", notebook.runs(), 3);
        Checks.same("log", notebook.logged(), 3);
    }

    private static void keepReturnsItsNumber() {
        Checks.sentence("Promise 25", "Returns its number");
        CellNotebook notebook = new CellNotebook();
        for (int image = 0; image < 10; image++) {
            Checks.same("keep", notebook.keep(), image);
            notebook.restore(0);
        }
    }

    private static void keepThrowsIfThereAreTen() {
        Checks.sentence("Promise 25", "Throws IllegalStateException if there are 10");
        CellNotebook notebook = withAllNamesSet();
        for (int image = 0; image < 9; image++) {
            notebook.keep();
        }
        Checks.same("the tenth", notebook.keep(), 9);
        Checks.illegalState("an eleventh", notebook, () -> notebook.keep());
        notebook.end();
        notebook.restore(9);
        Checks.illegalState("an eleventh, once one was restored", notebook, () -> notebook.keep());
    }

    private static void restoreTakesAllImages() {
        Checks.sentence("Promise 26", "Restores an image", "image: an image");
        CellNotebook notebook = Notebooks.withCells(1);
        Notebooks.program(notebook, 0, "a=1-1");
        notebook.run(0, 0);
        Notebooks.programAnew(notebook, 0, "a=a+1");
        for (int image = 0; image < 10; image++) {
            notebook.keep();
            notebook.run(0, 0);
        }
        for (int image = 9; image >= 0; image--) {
            Checks.same("restore", notebook.restore(image), 1);
            Checks.same("value", notebook.value(Notebooks.A), image);
            Checks.same("last run", notebook.lastRun(0), image + 1);
        }
        notebook.run(0, 0);
        notebook.end();
        Checks.same("restore of the same again", notebook.restore(0), 1);
        Checks.same("value", notebook.value(Notebooks.A), 0);
        Checks.same("last run", notebook.lastRun(0), 1);
    }

    private static void restoreReturnsHowManyAreSet() {
        Checks.sentence("Promise 26", "Returns how many names are set then");
        CellNotebook notebook = Notebooks.withCells(8);
        notebook.keep();
        for (int name = 0; name < Notebooks.NAMES; name++) {
            notebook.write(0, name, name, CellNotebook.PLUS, 600, 600);
            notebook.run(0, name);
            notebook.keep();
        }
        for (int image = 0; image <= Notebooks.NAMES; image++) {
            Checks.same("restore", notebook.restore(image), image);
        }
    }

    private static void restoreThrows() {
        Checks.sentence("Promise 26", "Throws IndexOutOfBoundsException if there is no such image");
        CellNotebook notebook = withAllNamesSet();
        for (int images = 0; images <= 10; images++) {
            for (int image : CallsBy.beyond(0, images - 1)) {
                Checks.outOfBounds("image " + image + " of " + images, notebook, () -> notebook.restore(image));
            }
            if (images < 10) {
                notebook.keep();
            }
        }
    }

    private static void endReturnsHowManyWereSet() {
        Checks.sentence("Promise 27", "returns how many names were set");
        CellNotebook notebook = Notebooks.withCells(2);
        Checks.same("at first", notebook.end(), 0);
        Notebooks.program(notebook, 0, "h=1-1");
        notebook.run(0, 0);
        Checks.same("one name, set to 0", notebook.end(), 1);
        Checks.same("again", notebook.end(), 0);
        CellNotebook full = withAllNamesSet();
        Checks.same("all names", full.end(), 8);
        Checks.same("again", full.end(), 0);
    }
}
