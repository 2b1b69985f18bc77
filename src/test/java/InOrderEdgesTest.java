/** The boundary cases of promises 28 to 30: what comes of all cells run in their order. */
final class InOrderEdgesTest {
    private InOrderEdgesTest() {
    }

    public static void main(String[] args) {
        Checks.run(
                InOrderEdgesTest::allNamesAreUnsetAhead,
                InOrderEdgesTest::allCellsAreRunInTheirOrder,
                InOrderEdgesTest::cellsAreRunOnceEach,
                InOrderEdgesTest::nothingIsRunIndeed,
                InOrderEdgesTest::isSetInOrderThrows,
                InOrderEdgesTest::valueInOrderIsTheValueThen,
                InOrderEdgesTest::valueInOrderThrowsWithoutName,
                InOrderEdgesTest::valueInOrderThrowsIfUnset,
                InOrderEdgesTest::unlikeIfSetNowAlone,
                InOrderEdgesTest::unlikeIfSetThenAlone,
                InOrderEdgesTest::unlikeIfTheValueIsAnother,
                InOrderEdgesTest::unlikeIsASet);
        Checks.end();
    }

    private static void allNamesAreUnsetAhead() {
        Checks.sentence("Promise 28", "Tells whether a name would be set if all names were unset", "name: 0 to 7");
        CellNotebook notebook = Notebooks.withPrograms("b=a+1", "a=1-1", "h=b+b");
        notebook.run(0, 1);
        notebook.run(0, 0);
        notebook.run(0, 2);
        for (int name = 0; name < Notebooks.NAMES; name++) {
            Checks.same("set in order, name " + name, notebook.isSetInOrder(name), name == Notebooks.A);
            Checks.same("asked again, name " + name, notebook.isSetInOrder(name), name == Notebooks.A);
        }
        Checks.same("set now", notebook.isSet(Notebooks.H), true);
        CellNotebook empty = Notebooks.withCells(1);
        Checks.same("an empty program", empty.isSetInOrder(Notebooks.A), false);
        Checks.same("without cells", new CellNotebook().isSetInOrder(Notebooks.H), false);
    }

    private static void allCellsAreRunInTheirOrder() {
        Checks.sentence("Promise 28", "and all cells were run in their order");
        CellNotebook notebook = Notebooks.withCells(16);
        Notebooks.program(notebook, 0, "a=1-1");
        for (int cell = 1; cell < 16; cell++) {
            Notebooks.program(notebook, cell, "a=a+1");
        }
        Checks.same("a through all cells", notebook.valueInOrder(Notebooks.A), 15);
        notebook.move(0, 8);
        Checks.same("the first 8 fail", notebook.valueInOrder(Notebooks.A), 7);
        notebook.move(0, 15);
        Checks.same("all but the last fail", notebook.valueInOrder(Notebooks.A), 0);
        Notebooks.program(notebook, 0, "a=a/a");
        Checks.same("all fail", notebook.isSetInOrder(Notebooks.A), false);
        Notebooks.programAnew(notebook, 9, "b=5+5;a=1+1;b=a/0");
        Checks.same("a failure leaves the names", notebook.isSetInOrder(Notebooks.B), false);
    }

    private static void cellsAreRunOnceEach() {
        Checks.sentence("Promise 28", "once each");
        CellNotebook notebook = Notebooks.withPrograms("c=b+1", "b=a+1", "a=1+1");
        Checks.same("a", notebook.isSetInOrder(Notebooks.A), true);
        Checks.same("b: its cell is not run again behind a", notebook.isSetInOrder(Notebooks.B), false);
        Checks.same("c", notebook.isSetInOrder(Notebooks.C), false);
        CellNotebook counter = Notebooks.withPrograms("a=1-1", "a=a+1");
        counter.refresh(0);
        counter.run(0, 1);
        Checks.same("value now, of two runs", counter.value(Notebooks.A), 2);
        Checks.same("value of a cell run once", counter.valueInOrder(Notebooks.A), 1);
    }

    private static void nothingIsRunIndeed() {
        Checks.sentence("Promise 28", "would be set");
        CellNotebook notebook = Notebooks.withPrograms("a=1+1", "b=a+h", "c=a+a");
        notebook.run(0, 2);
        notebook.keep();
        String before = Notebooks.allAnswers(notebook);
        notebook.isSetInOrder(Notebooks.A);
        notebook.valueInOrder(Notebooks.A);
        notebook.unlikeInOrder();
        Checks.same("all answers", Notebooks.allAnswers(notebook), before);
        Checks.same("runs", notebook.runs(), 1);
        Checks.same("last run of the cell that was run", notebook.lastRun(2), 1);
        Checks.same("last run of another", notebook.lastRun(0), 0);
        Checks.same("a name that a cell would set", notebook.isSet(Notebooks.A), false);
        Checks.same("times seen", notebook.timesSeen(Notebooks.A), 1);
        for (int run = 1; run < 400; run++) {
            notebook.run(0, 1);
        }
        Checks.same("though there were 400 runs", notebook.valueInOrder(Notebooks.C), 4);
    }

    private static void isSetInOrderThrows() {
        Checks.sentence("Promise 28", "Throws IndexOutOfBoundsException if there is no such name");
        CellNotebook notebook = CallsBy.busyNotebook();
        for (int name : CallsBy.beyond(0, 7)) {
            Checks.outOfBounds("name " + name, notebook, () -> notebook.isSetInOrder(name));
        }
    }

    private static void valueInOrderIsTheValueThen() {
        Checks.sentence("Promise 29", "Returns the value that a name would have then", "name: 0 to 7");
        for (int name = 0; name < Notebooks.NAMES; name++) {
            CellNotebook notebook = Notebooks.withCells(2);
            notebook.write(0, 0, name, CellNotebook.MINUS, 600, 601 + name);
            notebook.write(0, 1, name, CellNotebook.TIMES, name, 602);
            notebook.run(0, 0);
            Checks.same("value now", notebook.value(name), -1 - name);
            Checks.same("value in order", notebook.valueInOrder(name), -2 - 2 * name);
        }
        CellNotebook bounds = Notebooks.withPrograms("a=128*256;b=a*a;c=b-1;c=c+b", "d=0-b;d=d-b", "e=1-1",
                "c=c+1", "d=d-1");
        Checks.same("the highest int", bounds.valueInOrder(Notebooks.C), Integer.MAX_VALUE);
        Checks.same("the lowest int", bounds.valueInOrder(Notebooks.D), Integer.MIN_VALUE);
        Checks.same("0", bounds.valueInOrder(Notebooks.E), 0);
    }

    private static void valueInOrderThrowsWithoutName() {
        Checks.sentence("Promise 29", "Throws IndexOutOfBoundsException if there is no such name");
        CellNotebook notebook = CallsBy.busyNotebook();
        for (int name : CallsBy.beyond(0, 7)) {
            Checks.outOfBounds("name " + name, notebook, () -> notebook.valueInOrder(name));
        }
    }

    private static void valueInOrderThrowsIfUnset() {
        Checks.sentence("Promise 29", "Throws IllegalStateException if it would be unset");
        CellNotebook empty = new CellNotebook();
        Checks.illegalState("without cells", empty, () -> empty.valueInOrder(Notebooks.A));
        CellNotebook notebook = Notebooks.withPrograms("b=a+1", "a=1-1", "c=1+1;c=c/a");
        notebook.run(0, 1);
        notebook.run(0, 0);
        Checks.same("a would be 0", notebook.valueInOrder(Notebooks.A), 0);
        Checks.illegalState("set now alone", notebook, () -> notebook.valueInOrder(Notebooks.B));
        Checks.illegalState("set by a failure", notebook, () -> notebook.valueInOrder(Notebooks.C));
        Checks.illegalState("never set", notebook, () -> notebook.valueInOrder(Notebooks.H));
    }

    private static void unlikeIfSetNowAlone() {
        Checks.sentence("Promise 30", "Returns the names that are set now and would not be then");
        CellNotebook notebook = Notebooks.withPrograms("a=1-1;h=1+1");
        notebook.run(0, 0);
        Checks.same("set now and then", notebook.unlikeInOrder(), 0);
        notebook.clear(0, 0);
        Checks.same("set now alone, one of them to 0", notebook.unlikeInOrder(), 129);
    }

    private static void unlikeIfSetThenAlone() {
        Checks.sentence("Promise 30", "or the other way round");
        CellNotebook notebook = Notebooks.withPrograms("a=1-1;h=1+1");
        Checks.same("set then alone, one of them to 0", notebook.unlikeInOrder(), 129);
        notebook.run(0, 0);
        notebook.end();
        Checks.same("unset by the end", notebook.unlikeInOrder(), 129);
    }

    private static void unlikeIfTheValueIsAnother() {
        Checks.sentence("Promise 30", "or have another value");
        CellNotebook notebook = Notebooks.withPrograms("a=1-1;h=1+1");
        notebook.run(0, 0);
        notebook.run(0, 0);
        Checks.same("the same values with another stamp", notebook.unlikeInOrder(), 0);
        Notebooks.programAnew(notebook, 0, "a=0-1;h=1+1");
        Checks.same("a would be -1", notebook.unlikeInOrder(), 1);
        Notebooks.programAnew(notebook, 0, "a=1-1;h=1+0");
        Checks.same("h would be 1", notebook.unlikeInOrder(), 128);
        Notebooks.programAnew(notebook, 0, "h=1*2;a=0/5");
        Checks.same("the same values by another program", notebook.unlikeInOrder(), 0);
    }

    private static void unlikeIsASet() {
        Checks.sentence("Promise 30", "a set");
        Checks.same("none", new CellNotebook().unlikeInOrder(), 0);
        for (int name = 0; name < Notebooks.NAMES; name++) {
            CellNotebook notebook = Notebooks.withCells(1);
            notebook.write(0, 0, name, CellNotebook.PLUS, 600, 600);
            Checks.same("name " + name, notebook.unlikeInOrder(), 1 << name);
        }
        CellNotebook all = CallsBy.busyNotebook();
        Checks.same("set as in order", all.unlikeInOrder(), 0);
        all.end();
        Checks.same("all", all.unlikeInOrder(), 255);
    }
}
