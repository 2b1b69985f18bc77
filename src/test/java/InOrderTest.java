/** Promises 28 to 30: what comes of all cells run in their order. */
final class InOrderTest {
    private InOrderTest() {
    }

    public static void main(String[] args) {
        Checks.run(
                InOrderTest::cellsRunInTheirOrder,
                InOrderTest::cellsBeginWithAllNamesUnset,
                InOrderTest::aCellThatFailsLeavesTheNames,
                InOrderTest::nothingIsRun,
                InOrderTest::unlikeTellsNames,
                InOrderTest::refusals);
        Checks.end();
    }

    private static void cellsRunInTheirOrder() {
        CellNotebook notebook = Notebooks.withCells(3);
        Notebooks.program(notebook, 0, "a=2+3");
        Notebooks.program(notebook, 1, "a=a*a");
        Notebooks.program(notebook, 2, "b=a+1");
        Checks.same("a", notebook.valueInOrder(Notebooks.A), 25);
        Checks.same("b", notebook.valueInOrder(Notebooks.B), 26);
        notebook.move(1, 2);
        Checks.same("a, moved", notebook.valueInOrder(Notebooks.A), 25);
        Checks.same("b, moved", notebook.valueInOrder(Notebooks.B), 6);
        notebook.move(2, 0);
        Checks.same("b, ahead of a", notebook.isSetInOrder(Notebooks.B), false);
        Checks.same("a", notebook.isSetInOrder(Notebooks.A), true);
    }

    private static void cellsBeginWithAllNamesUnset() {
        CellNotebook notebook = Notebooks.withCells(2);
        Notebooks.program(notebook, 0, "b=a+1");
        Notebooks.program(notebook, 1, "a=1+1");
        notebook.run(0, 1);
        notebook.run(0, 0);
        Checks.same("b", notebook.isSet(Notebooks.B), true);
        Checks.same("b in order", notebook.isSetInOrder(Notebooks.B), false);
        Checks.same("b in order, asked again", notebook.isSetInOrder(Notebooks.B), false);
    }

    private static void aCellThatFailsLeavesTheNames() {
        CellNotebook notebook = Notebooks.withCells(3);
        Notebooks.program(notebook, 0, "a=2+3");
        Notebooks.program(notebook, 1, "a=1+1;c=1+1;b=a/0");
        Notebooks.program(notebook, 2, "d=a+1");
        Checks.same("a", notebook.valueInOrder(Notebooks.A), 5);
        Checks.same("c", notebook.isSetInOrder(Notebooks.C), false);
        Checks.same("d, behind the one that fails", notebook.valueInOrder(Notebooks.D), 6);
    }

    private static void nothingIsRun() {
        CellNotebook notebook = Notebooks.withCells(2);
        Notebooks.program(notebook, 0, "a=2+3");
        Notebooks.program(notebook, 1, "b=a+h");
        notebook.run(0, 0);
        notebook.isSetInOrder(Notebooks.A);
        notebook.valueInOrder(Notebooks.A);
        notebook.unlikeInOrder();
        Checks.same("runs", notebook.runs(), 1);
        Checks.same("last run", notebook.lastRun(1), 0);
        Checks.same("times seen", notebook.timesSeen(Notebooks.A), 0);
        Checks.same("stamp", notebook.stamp(Notebooks.A), 1);
        Checks.same("seen", notebook.seen(0), 0);
    }

    private static void unlikeTellsNames() {
        CellNotebook notebook = Notebooks.withCells(3);
        Notebooks.program(notebook, 0, "a=1-1;h=2+2");
        Checks.same("set in order alone, one of them to 0", notebook.unlikeInOrder(), 129);
        notebook.run(0, 0);
        Checks.same("as in order", notebook.unlikeInOrder(), 0);
        notebook.run(0, 0);
        Checks.same("other stamps are no matter", notebook.unlikeInOrder(), 0);
        notebook.clear(0, 0);
        Checks.same("set now alone", notebook.unlikeInOrder(), 129);
        Notebooks.program(notebook, 0, "a=1-1;h=2+3");
        Checks.same("another value", notebook.unlikeInOrder(), 128);
        notebook.end();
        Checks.same("unset now", notebook.unlikeInOrder(), 129);
    }

    private static void refusals() {
        CellNotebook notebook = Notebooks.withCells(1);
        Notebooks.program(notebook, 0, "a=1+1");
        for (int name : new int[] {-1, 8, Integer.MIN_VALUE, Integer.MAX_VALUE}) {
            Checks.outOfBounds("isSetInOrder " + name, notebook, () -> notebook.isSetInOrder(name));
            Checks.outOfBounds("valueInOrder " + name, notebook, () -> notebook.valueInOrder(name));
        }
        Checks.illegalState("valueInOrder of what would be unset", notebook,
                () -> notebook.valueInOrder(Notebooks.B));
        notebook.run(0, 0);
        notebook.clear(0, 0);
        Checks.illegalState("valueInOrder of what is set now alone", notebook,
                () -> notebook.valueInOrder(Notebooks.A));
    }
}
