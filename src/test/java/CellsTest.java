/** Promises 1 to 9: a new object, cells, their order and their programs. */
final class CellsTest {
    private CellsTest() {
    }

    public static void main(String[] args) {
        Checks.run(
                CellsTest::aNewObjectIsEmpty,
                CellsTest::cellsAreNumberedAndLastInTheOrder,
                CellsTest::thereAreSixteenCellsAtMost,
                CellsTest::writeAddsStatements,
                CellsTest::writeTakesAllOperands,
                CellsTest::writeRefusesWhatIsOutOfRange,
                CellsTest::writeThrowsInOrder,
                CellsTest::writeNeedsEdit,
                CellsTest::clearEmptiesAProgram,
                CellsTest::clearRefuses,
                CellsTest::clearOfNothingIsNoChange,
                CellsTest::moveKeepsTheOthers,
                CellsTest::moveAndCellAtRefuse,
                CellsTest::programsAreWrittenOut,
                CellsTest::sourceRefuses);
        Checks.end();
    }

    private static void aNewObjectIsEmpty() {
        CellNotebook notebook = new CellNotebook();
        Checks.same("cells of a new object", notebook.cellCount(), 0);
        Checks.same("runs of a new object", notebook.runs(), 0);
        Checks.same("log of a new object", notebook.logged(), 0);
        Checks.same("stale cells of a new object", notebook.stale(), 0);
        Checks.same("unlike in a new object", notebook.unlikeInOrder(), 0);
        for (int name = 0; name < Notebooks.NAMES; name++) {
            Checks.same("isSet in a new object", notebook.isSet(name), false);
            Checks.same("stamp in a new object", notebook.stamp(name), 0);
            Checks.same("times seen in a new object", notebook.timesSeen(name), 0);
        }
        Checks.outOfBounds("a new object has no image", notebook, () -> notebook.restore(0));
        Checks.outOfBounds("a new object has no cell", notebook, () -> notebook.lastRun(0));
        Checks.outOfBounds("a new object has no place", notebook, () -> notebook.cellAt(0));
    }

    private static void cellsAreNumberedAndLastInTheOrder() {
        CellNotebook notebook = new CellNotebook();
        Checks.same("first cell", notebook.addCell(), 0);
        Checks.same("second cell", notebook.addCell(), 1);
        notebook.move(1, 0);
        Checks.same("third cell", notebook.addCell(), 2);
        Checks.same("cellCount", notebook.cellCount(), 3);
        Checks.same("order", Notebooks.order(notebook), "1 0 2 ");
        Checks.same("source of a new cell", notebook.source(2), 0);
        Checks.same("last run of a new cell", notebook.lastRun(2), 0);
        Checks.same("result of a new cell", notebook.hasResult(2), false);
        Checks.same("why of a new cell", notebook.why(2), 0);
    }

    private static void thereAreSixteenCellsAtMost() {
        CellNotebook notebook = Notebooks.withCells(15);
        Checks.same("the last cell", notebook.addCell(), 15);
        Checks.same("cellCount", notebook.cellCount(), 16);
        try {
            notebook.addCell();
            Checks.fail("a cell beyond 16 is added");
        } catch (IllegalStateException e) {
            Checks.same("cellCount after the throw", notebook.cellCount(), 16);
        }
    }

    private static void writeAddsStatements() {
        CellNotebook notebook = Notebooks.withCells(2);
        for (int statements = 1; statements <= 6; statements++) {
            Checks.same("statements", notebook.write(0, 1, 0, CellNotebook.PLUS, 600, 600), statements);
        }
        Checks.illegalState("a seventh statement", notebook,
                () -> notebook.write(0, 1, 0, CellNotebook.PLUS, 600, 600));
        Checks.same("the other program", notebook.source(0), 0);
    }

    private static void writeTakesAllOperands() {
        CellNotebook notebook = Notebooks.withCells(1);
        Checks.same("lowest", notebook.write(0, 0, 0, CellNotebook.PLUS, 0, 100), 1);
        Checks.same("highest", notebook.write(0, 0, 7, CellNotebook.OVER, 7, 1100), 2);
        Checks.same("text", Notebooks.text(notebook, 0), "a=a+-500\nh=h/500\n");
    }

    private static void writeRefusesWhatIsOutOfRange() {
        CellNotebook notebook = Notebooks.withCells(2);
        for (int user : new int[] {-1, 5, Integer.MIN_VALUE, Integer.MAX_VALUE}) {
            Checks.outOfBounds("write, user " + user, notebook, () -> notebook.write(user, 0, 0, 0, 600, 600));
        }
        for (int cell : new int[] {-1, 2, 16, Integer.MIN_VALUE, Integer.MAX_VALUE}) {
            Checks.outOfBounds("write, cell " + cell, notebook, () -> notebook.write(0, cell, 0, 0, 600, 600));
        }
        for (int name : new int[] {-1, 8, 100, Integer.MIN_VALUE, Integer.MAX_VALUE}) {
            Checks.outOfBounds("write, name " + name, notebook, () -> notebook.write(0, 0, name, 0, 600, 600));
        }
        for (int operation : new int[] {-1, 4, Integer.MIN_VALUE, Integer.MAX_VALUE}) {
            Checks.illegalArgument("write, operation " + operation, notebook,
                    () -> notebook.write(0, 0, 0, operation, 600, 600));
        }
        for (int operand : new int[] {-1, 8, 99, 1101, Integer.MIN_VALUE, Integer.MAX_VALUE}) {
            Checks.illegalArgument("write, left " + operand, notebook,
                    () -> notebook.write(0, 0, 0, 0, operand, 600));
            Checks.illegalArgument("write, right " + operand, notebook,
                    () -> notebook.write(0, 0, 0, 0, 600, operand));
        }
    }

    private static void writeThrowsInOrder() {
        CellNotebook notebook = Notebooks.withCells(1);
        Checks.outOfBounds("no name ahead of no operation", notebook, () -> notebook.write(1, 0, 8, 4, 8, 8));
        Checks.outOfBounds("no cell ahead of no operation", notebook, () -> notebook.write(1, 1, 0, 4, 8, 8));
        Checks.outOfBounds("no user ahead of no operation", notebook, () -> notebook.write(5, 0, 0, 4, 8, 8));
        Checks.illegalArgument("no operation ahead of no right", notebook,
                () -> notebook.write(1, 0, 0, 4, 600, 600));
        Checks.illegalArgument("no operand ahead of no right", notebook, () -> notebook.write(1, 0, 0, 0, 600, 8));
        Notebooks.program(notebook, 0, "a=1+1;a=1+1;a=1+1;a=1+1;a=1+1;a=1+1");
        Checks.illegalArgument("no operand ahead of a full program", notebook,
                () -> notebook.write(0, 0, 0, 0, 99, 600));
    }

    private static void writeNeedsEdit() {
        CellNotebook notebook = Notebooks.withCells(2);
        for (int right = CellNotebook.NOTHING; right < CellNotebook.EDIT; right++) {
            notebook.grant(3, 0, right);
            Checks.illegalState("write, right " + right, notebook, () -> notebook.write(3, 0, 0, 0, 600, 600));
        }
        notebook.grant(3, 0, CellNotebook.EDIT);
        Checks.same("write, with EDIT", notebook.write(3, 0, 0, 0, 600, 600), 1);
        Checks.illegalState("write, another cell", notebook, () -> notebook.write(3, 1, 0, 0, 600, 600));
        Checks.illegalState("write, another guest", notebook, () -> notebook.write(4, 0, 0, 0, 600, 600));
    }

    private static void clearEmptiesAProgram() {
        CellNotebook notebook = Notebooks.withCells(2);
        Notebooks.program(notebook, 0, "a=1+1;b=a+1;c=b+1");
        Notebooks.program(notebook, 1, "d=1+1");
        Checks.same("clear", notebook.clear(0, 0), 3);
        Checks.same("source after clear", notebook.source(0), 0);
        Checks.same("the other program", Notebooks.text(notebook, 1), "d=1+1\n");
        Checks.same("clear again", notebook.clear(0, 0), 0);
        Checks.same("write after clear", notebook.write(0, 0, 0, 0, 600, 600), 1);
    }

    private static void clearRefuses() {
        CellNotebook notebook = Notebooks.withCells(1);
        Notebooks.program(notebook, 0, "a=1+1");
        Checks.outOfBounds("clear, user -1", notebook, () -> notebook.clear(-1, 0));
        Checks.outOfBounds("clear, user 5", notebook, () -> notebook.clear(5, 0));
        Checks.outOfBounds("clear, cell -1", notebook, () -> notebook.clear(0, -1));
        Checks.outOfBounds("clear, cell 1", notebook, () -> notebook.clear(0, 1));
        Checks.outOfBounds("clear, no cell ahead of no right", notebook, () -> notebook.clear(1, 1));
        notebook.grant(1, 0, CellNotebook.RUN);
        Checks.illegalState("clear, with RUN", notebook, () -> notebook.clear(1, 0));
        notebook.grant(1, 0, CellNotebook.EDIT);
        Checks.same("clear, with EDIT", notebook.clear(1, 0), 1);
        notebook.grant(1, 0, CellNotebook.NOTHING);
        Checks.illegalState("clear of an empty program, without a right", notebook, () -> notebook.clear(1, 0));
    }

    private static void clearOfNothingIsNoChange() {
        CellNotebook notebook = Notebooks.withCells(1);
        notebook.run(0, 0);
        notebook.clear(0, 0);
        Checks.same("why after a clear of nothing", notebook.why(0), 0);
    }

    private static void moveKeepsTheOthers() {
        CellNotebook notebook = Notebooks.withCells(5);
        Checks.same("place before", notebook.move(1, 3), 1);
        Checks.same("order, moved on", Notebooks.order(notebook), "0 2 3 1 4 ");
        Checks.same("place before", notebook.move(4, 0), 4);
        Checks.same("order, moved to the front", Notebooks.order(notebook), "4 0 2 3 1 ");
        Checks.same("place before", notebook.move(0, 4), 1);
        Checks.same("order, moved to the end", Notebooks.order(notebook), "4 2 3 1 0 ");
        Checks.same("place before", notebook.move(3, 2), 2);
        Checks.same("order, not moved", Notebooks.order(notebook), "4 2 3 1 0 ");
    }

    private static void moveAndCellAtRefuse() {
        CellNotebook notebook = Notebooks.withCells(2);
        for (int number : new int[] {-1, 2, 16, Integer.MIN_VALUE, Integer.MAX_VALUE}) {
            Checks.outOfBounds("move, cell " + number, notebook, () -> notebook.move(number, 0));
            Checks.outOfBounds("move, place " + number, notebook, () -> notebook.move(0, number));
            Checks.outOfBounds("cellAt, place " + number, notebook, () -> notebook.cellAt(number));
        }
    }

    private static void programsAreWrittenOut() {
        CellNotebook notebook = Notebooks.withCells(1);
        notebook.write(0, 0, 7, CellNotebook.PLUS, 599, 600);
        notebook.write(0, 0, 6, CellNotebook.MINUS, 0, 100);
        notebook.write(0, 0, 1, CellNotebook.TIMES, 610, 1);
        notebook.write(0, 0, 2, CellNotebook.OVER, 7, 1100);
        String due = "h=-1+0\ng=a--500\nb=10*b\nc=h/500\n";
        Checks.same("source", notebook.source(0), due.length());
        Checks.same("text", Notebooks.text(notebook, 0), due);
    }

    private static void sourceRefuses() {
        CellNotebook notebook = Notebooks.withCells(2);
        Notebooks.program(notebook, 0, "a=1+1");
        for (int cell : new int[] {-1, 2, Integer.MIN_VALUE, Integer.MAX_VALUE}) {
            Checks.outOfBounds("source, cell " + cell, notebook, () -> notebook.source(cell));
            Checks.outOfBounds("sourceChar, cell " + cell, notebook, () -> notebook.sourceChar(cell, 0));
        }
        for (int place : new int[] {-1, 6, Integer.MIN_VALUE, Integer.MAX_VALUE}) {
            Checks.outOfBounds("sourceChar, place " + place, notebook, () -> notebook.sourceChar(0, place));
        }
        Checks.outOfBounds("sourceChar of an empty program", notebook, () -> notebook.sourceChar(1, 0));
    }
}
