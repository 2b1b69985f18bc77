import java.util.ArrayList;
import java.util.List;

/** The boundary cases of promises 1 to 9: a new object, cells, their order and their programs. */
final class CellsEdgesTest {
    private static final int PLUS = CellNotebook.PLUS;
    private static final String LONGEST = "a=-500*-500;b=-500*-500;c=-500*-500;d=-500*-500;e=-500*-500;f=-500*-500";

    private CellsEdgesTest() {
    }

    public static void main(String[] args) {
        Checks.run(
                CellsEdgesTest::beginsWithoutCells,
                CellsEdgesTest::beginsWithoutRuns,
                CellsEdgesTest::beginsWithAllNamesUnset,
                CellsEdgesTest::addCellIsLastInTheOrder,
                CellsEdgesTest::addCellReturnsItsNumber,
                CellsEdgesTest::addCellThrowsIfThereAreSixteen,
                CellsEdgesTest::writeIsAtTheEnd,
                CellsEdgesTest::writeTakesItsArguments,
                CellsEdgesTest::writeReturnsHowManyStatements,
                CellsEdgesTest::writeThrowsWithoutUserCellOrName,
                CellsEdgesTest::writeThrowsOutOfRange,
                CellsEdgesTest::writeThrowsWithoutEdit,
                CellsEdgesTest::writeThrowsIfItHasSix,
                CellsEdgesTest::clearClears,
                CellsEdgesTest::clearReturnsHowMany,
                CellsEdgesTest::clearOfNothingIsNoChange,
                CellsEdgesTest::clearThrowsWithoutUserOrCell,
                CellsEdgesTest::clearThrowsWithoutEdit,
                CellsEdgesTest::moveKeepsTheOthers,
                CellsEdgesTest::moveReturnsThePlaceBefore,
                CellsEdgesTest::moveTakesPlacesFromZero,
                CellsEdgesTest::moveThrows,
                CellsEdgesTest::cellCountCounts,
                CellsEdgesTest::cellAtTakesPlacesFromZero,
                CellsEdgesTest::cellAtThrows,
                CellsEdgesTest::sourceIsTheLength,
                CellsEdgesTest::sourceThrows,
                CellsEdgesTest::sourceCharIsAChar,
                CellsEdgesTest::sourceCharThrows);
        Checks.end();
    }

    private static void beginsWithoutCells() {
        Checks.sentence("Promise 1", "Begins without cells");
        CellNotebook notebook = new CellNotebook();
        Checks.same("cellCount", notebook.cellCount(), 0);
        Checks.same("stale", notebook.stale(), 0);
        Checks.same("refresh", notebook.refresh(0), 0);
        Checks.outOfBounds("cellAt", notebook, () -> notebook.cellAt(0));
        Checks.outOfBounds("why", notebook, () -> notebook.why(0));
    }

    private static void beginsWithoutRuns() {
        Checks.sentence("Promise 1", "and runs");
        CellNotebook notebook = new CellNotebook();
        Checks.same("runs", notebook.runs(), 0);
        Checks.same("logged", notebook.logged(), 0);
        Checks.same("forget", notebook.forget(0), 0);
        Checks.outOfBounds("logAt", notebook, () -> notebook.logAt(0));
        for (int name = 0; name < Notebooks.NAMES; name++) {
            Checks.same("timesSeen", notebook.timesSeen(name), 0);
        }
    }

    private static void beginsWithAllNamesUnset() {
        Checks.sentence("Promise 1", "all names are unset");
        CellNotebook notebook = new CellNotebook();
        for (int name = 0; name < Notebooks.NAMES; name++) {
            int unset = name;
            Checks.same("isSet", notebook.isSet(name), false);
            Checks.same("stamp", notebook.stamp(name), 0);
            Checks.illegalState("value", notebook, () -> notebook.value(unset));
        }
        Checks.same("end", notebook.end(), 0);
    }

    private static void addCellIsLastInTheOrder() {
        Checks.sentence("Promise 2", "Adds a cell, last in the order");
        CellNotebook notebook = new CellNotebook();
        for (int cell = 0; cell < 16; cell++) {
            notebook.addCell();
            Checks.same("last in the order", notebook.cellAt(cell), cell);
            notebook.move(cell, cell / 2);
        }
        Checks.same("order", Notebooks.order(notebook), "1 3 5 7 9 11 13 15 14 12 10 8 6 4 2 0 ");
    }

    private static void addCellReturnsItsNumber() {
        Checks.sentence("Promise 2", "Returns its number");
        CellNotebook notebook = new CellNotebook();
        for (int cell = 0; cell < 16; cell++) {
            Checks.same("addCell", notebook.addCell(), cell);
            notebook.move(cell, 0);
        }
    }

    private static void addCellThrowsIfThereAreSixteen() {
        Checks.sentence("Promise 2", "Throws IllegalStateException if there are 16");
        CellNotebook notebook = Notebooks.withCells(15);
        Checks.same("the sixteenth", notebook.addCell(), 15);
        Checks.illegalState("a seventeenth", notebook, () -> notebook.addCell());
        Checks.illegalState("a seventeenth again", notebook, () -> notebook.addCell());
    }

    private static void writeIsAtTheEnd() {
        Checks.sentence("Promise 3", "Writes a statement at the end of a program");
        CellNotebook notebook = Notebooks.withCells(2);
        StringBuilder due = new StringBuilder();
        for (int name = 0; name < 6; name++) {
            notebook.write(0, 1, name, PLUS, name, 600 + name);
            due.append("abcdef".charAt(name)).append('=').append("abcdef".charAt(name)).append('+').append(name);
            due.append('\n');
            Checks.same("text", Notebooks.text(notebook, 1), due.toString());
            Checks.same("text of the other cell", Notebooks.text(notebook, 0), "");
        }
    }

    private static void writeTakesItsArguments() {
        Checks.sentence("Promise 3", "user: 0 to 4", "cell: a cell", "name: the name that is set, 0 to 7",
                "operation: PLUS, MINUS, TIMES or OVER", "left: an operand", "right: an operand");
        for (int user = 0; user < Notebooks.USERS; user++) {
            CellNotebook notebook = Notebooks.withCells(16);
            if (user > 0) {
                notebook.grant(user, 15, CellNotebook.EDIT);
            }
            notebook.write(user, 15, 0, CellNotebook.PLUS, 0, 1100);
            notebook.write(user, 15, 7, CellNotebook.MINUS, 1100, 0);
            notebook.write(user, 15, 0, CellNotebook.TIMES, 7, 100);
            notebook.write(user, 15, 7, CellNotebook.OVER, 100, 7);
            Checks.same("text", Notebooks.text(notebook, 15), "a=a+500\nh=500-a\na=h*-500\nh=-500/h\n");
        }
    }

    private static void writeReturnsHowManyStatements() {
        Checks.sentence("Promise 3", "Returns how many statements the program has then");
        CellNotebook notebook = Notebooks.withCells(2);
        for (int round = 0; round < 2; round++) {
            for (int statements = 1; statements <= 6; statements++) {
                Checks.same("write", notebook.write(0, 0, 0, PLUS, 600, 600), statements);
            }
            notebook.clear(0, 0);
        }
        Checks.same("write to the other cell", notebook.write(0, 1, 0, PLUS, 600, 600), 1);
    }

    private static void writeThrowsWithoutUserCellOrName() {
        Checks.sentence("Promise 3", "Throws IndexOutOfBoundsException if there is no such user, cell or name");
        CellNotebook notebook = Notebooks.withCells(2);
        for (int user : CallsBy.beyond(0, 4)) {
            Checks.outOfBounds("user " + user, notebook, () -> notebook.write(user, 1, 0, PLUS, 600, 600));
        }
        for (int cell : CallsBy.beyond(0, 1)) {
            Checks.outOfBounds("cell " + cell, notebook, () -> notebook.write(0, cell, 0, PLUS, 600, 600));
        }
        for (int name : CallsBy.beyond(0, 7)) {
            Checks.outOfBounds("name " + name, notebook, () -> notebook.write(0, 1, name, PLUS, 600, 600));
        }
        Checks.outOfBounds("a number for a name", notebook, () -> notebook.write(0, 1, 600, PLUS, 600, 600));
    }

    private static void writeThrowsOutOfRange() {
        Checks.sentence("Promise 3", "Throws IllegalArgumentException if operation is out of range, or left or right "
                + "is no operand");
        CellNotebook notebook = Notebooks.withCells(1);
        for (int operation : CallsBy.beyond(CellNotebook.PLUS, CellNotebook.OVER)) {
            Checks.illegalArgument("operation " + operation, notebook,
                    () -> notebook.write(0, 0, 0, operation, 600, 600));
        }
        for (int operand : new int[] {Integer.MIN_VALUE, -500, -1, 8, 50, 99, 1101, Integer.MAX_VALUE}) {
            Checks.illegalArgument("left " + operand, notebook, () -> notebook.write(0, 0, 0, PLUS, operand, 600));
            Checks.illegalArgument("right " + operand, notebook, () -> notebook.write(0, 0, 0, PLUS, 600, operand));
            Checks.illegalArgument("both " + operand, notebook,
                    () -> notebook.write(0, 0, 0, PLUS, operand, operand));
        }
    }

    private static void writeThrowsWithoutEdit() {
        Checks.sentence("Promise 3", "Throws IllegalStateException if the user may not EDIT the cell");
        CellNotebook notebook = Notebooks.withCells(2);
        for (int user = 1; user < Notebooks.USERS; user++) {
            int guest = user;
            notebook.grant(guest, 1, CellNotebook.EDIT);
            for (int right = CellNotebook.NOTHING; right < CellNotebook.EDIT; right++) {
                notebook.grant(guest, 0, right);
                Checks.illegalState("write with right " + right, notebook,
                        () -> notebook.write(guest, 0, 0, PLUS, 600, 600));
            }
            notebook.grant(guest, 0, CellNotebook.EDIT);
            Checks.same("write with EDIT", notebook.write(guest, 0, 0, PLUS, 600, 600), guest);
        }
    }

    private static void writeThrowsIfItHasSix() {
        Checks.sentence("Promise 3", "or it has 6");
        CellNotebook notebook = Notebooks.withCells(1);
        notebook.grant(4, 0, CellNotebook.EDIT);
        Notebooks.program(notebook, 0, "a=1+1;a=1+1;a=1+1;a=1+1;a=1+1");
        Checks.same("the sixth", notebook.write(4, 0, 0, PLUS, 600, 600), 6);
        Checks.illegalState("a seventh by the host", notebook, () -> notebook.write(0, 0, 0, PLUS, 600, 600));
        Checks.illegalState("a seventh by a guest", notebook, () -> notebook.write(4, 0, 0, PLUS, 600, 600));
        notebook.clear(0, 0);
        Checks.same("when it was cleared", notebook.write(0, 0, 0, PLUS, 600, 600), 1);
    }

    private static void clearClears() {
        Checks.sentence("Promise 4", "Clears a program");
        CellNotebook notebook = Notebooks.withCells(3);
        Notebooks.program(notebook, 0, LONGEST);
        Notebooks.program(notebook, 1, "h=1+1");
        Notebooks.program(notebook, 2, "g=1+1");
        notebook.clear(0, 0);
        notebook.clear(0, 1);
        Checks.same("a program of 6", Notebooks.text(notebook, 0), "");
        Checks.same("a program of 1", Notebooks.text(notebook, 1), "");
        Checks.same("another one", Notebooks.text(notebook, 2), "g=1+1\n");
        notebook.refresh(0);
        Checks.same("names that are set by runs", notebook.end(), 1);
    }

    private static void clearReturnsHowMany() {
        Checks.sentence("Promise 4", "Returns how many statements it had", "user: 0 to 4");
        for (int user = 0; user < Notebooks.USERS; user++) {
            CellNotebook notebook = Notebooks.withCells(1);
            if (user > 0) {
                notebook.grant(user, 0, CellNotebook.EDIT);
            }
            for (int statements = 0; statements <= 6; statements++) {
                for (int statement = 0; statement < statements; statement++) {
                    notebook.write(user, 0, 0, PLUS, 600, 600);
                }
                Checks.same("clear", notebook.clear(user, 0), statements);
            }
        }
    }

    private static void clearOfNothingIsNoChange() {
        Checks.sentence("Promise 4", "0 is no change");
        CellNotebook notebook = Notebooks.withCells(2);
        notebook.run(0, 0);
        Checks.same("clear of a program empty at first", notebook.clear(0, 0), 0);
        Checks.same("why", notebook.why(0), 0);
        Notebooks.program(notebook, 1, "a=1+1");
        notebook.clear(0, 1);
        notebook.run(0, 1);
        Checks.same("clear of a program that was cleared", notebook.clear(0, 1), 0);
        Checks.same("why", notebook.why(1), 0);
        Checks.same("stale", notebook.stale(), 0);
    }

    private static void clearThrowsWithoutUserOrCell() {
        Checks.sentence("Promise 4", "Throws IndexOutOfBoundsException if there is no such user or cell");
        CellNotebook notebook = Notebooks.withCells(2);
        Notebooks.program(notebook, 0, "a=1+1");
        for (int user : CallsBy.beyond(0, 4)) {
            Checks.outOfBounds("user " + user, notebook, () -> notebook.clear(user, 0));
        }
        for (int cell : CallsBy.beyond(0, 1)) {
            Checks.outOfBounds("cell " + cell, notebook, () -> notebook.clear(0, cell));
        }
    }

    private static void clearThrowsWithoutEdit() {
        Checks.sentence("Promise 4", "Throws IllegalStateException if the user may not EDIT the cell");
        CellNotebook notebook = Notebooks.withCells(2);
        Notebooks.program(notebook, 0, "a=1+1");
        for (int user = 1; user < Notebooks.USERS; user++) {
            int guest = user;
            for (int right = CellNotebook.NOTHING; right < CellNotebook.EDIT; right++) {
                notebook.grant(guest, 0, right);
                notebook.grant(guest, 1, right);
                Checks.illegalState("clear with right " + right, notebook, () -> notebook.clear(guest, 0));
                Checks.illegalState("clear of nothing with right " + right, notebook,
                        () -> notebook.clear(guest, 1));
            }
            notebook.grant(guest, 1, CellNotebook.EDIT);
            Checks.same("clear with EDIT", notebook.clear(guest, 1), 0);
        }
    }

    private static void moveKeepsTheOthers() {
        Checks.sentence("Promise 5", "Moves a cell in the order; the others keep theirs");
        CellNotebook notebook = Notebooks.withCells(16);
        List<Integer> due = new ArrayList<>();
        for (int cell = 0; cell < 16; cell++) {
            due.add(cell);
        }
        for (int call = 0; call < 16 * 16; call++) {
            int cell = call % 16;
            int place = (call * 7 + call / 16) % 16;
            Checks.same("place before", notebook.move(cell, place), due.indexOf(cell));
            due.remove((Integer) cell);
            due.add(place, cell);
            Checks.same("order", Notebooks.order(notebook), due.toString().replaceAll("[\\[,]", "").replace("]", " "));
        }
    }

    private static void moveReturnsThePlaceBefore() {
        Checks.sentence("Promise 5", "Returns its place before");
        CellNotebook notebook = Notebooks.withCells(16);
        Checks.same("the first place", notebook.move(0, 0), 0);
        Checks.same("the last place", notebook.move(15, 15), 15);
        Checks.same("the last place", notebook.move(15, 0), 15);
        Checks.same("one place further on", notebook.move(0, 15), 1);
        Checks.same("its number again", notebook.move(9, 2), 9);
        Checks.same("where it was moved to", notebook.move(9, 0), 2);
    }

    private static void moveTakesPlacesFromZero() {
        Checks.sentence("Promise 5", "place: its place then, from 0 on");
        CellNotebook one = Notebooks.withCells(1);
        Checks.same("the only place", one.move(0, 0), 0);
        CellNotebook notebook = Notebooks.withCells(16);
        Checks.same("from the first place to the last", notebook.move(0, 15), 0);
        Checks.same("the cell there", notebook.cellAt(15), 0);
        Checks.same("from the last place to the first", notebook.move(0, 0), 15);
        Checks.same("the cell there", notebook.cellAt(0), 0);
        Checks.same("to where it is", notebook.move(7, 7), 7);
        Checks.same("the cell there", notebook.cellAt(7), 7);
    }

    private static void moveThrows() {
        Checks.sentence("Promise 5", "Throws IndexOutOfBoundsException if there is no such cell or place");
        CellNotebook empty = new CellNotebook();
        Checks.outOfBounds("without cells", empty, () -> empty.move(0, 0));
        CellNotebook notebook = Notebooks.withCells(3);
        for (int number : CallsBy.beyond(0, 2)) {
            Checks.outOfBounds("cell " + number, notebook, () -> notebook.move(number, 0));
            Checks.outOfBounds("place " + number, notebook, () -> notebook.move(0, number));
        }
    }

    private static void cellCountCounts() {
        Checks.sentence("Promise 6", "Returns how many cells there are");
        CellNotebook notebook = new CellNotebook();
        for (int cells = 0; cells < 16; cells++) {
            Checks.same("cellCount", notebook.cellCount(), cells);
            notebook.addCell();
        }
        Checks.same("cellCount", notebook.cellCount(), 16);
        Checks.illegalState("a cell more", notebook, () -> notebook.addCell());
        Checks.same("cellCount", notebook.cellCount(), 16);
    }

    private static void cellAtTakesPlacesFromZero() {
        Checks.sentence("Promise 7", "Returns the cell at a place in the order", "place: from 0 on");
        CellNotebook notebook = Notebooks.withCells(16);
        notebook.move(15, 0);
        notebook.move(0, 15);
        Checks.same("the first place", notebook.cellAt(0), 15);
        Checks.same("the second place", notebook.cellAt(1), 1);
        Checks.same("the last place", notebook.cellAt(15), 0);
    }

    private static void cellAtThrows() {
        Checks.sentence("Promise 7", "Throws IndexOutOfBoundsException if there is no such place");
        for (int cells : new int[] {0, 1, 16}) {
            CellNotebook notebook = Notebooks.withCells(cells);
            for (int place : CallsBy.beyond(0, cells - 1)) {
                Checks.outOfBounds("place " + place + " of " + cells, notebook, () -> notebook.cellAt(place));
            }
        }
    }

    private static void sourceIsTheLength() {
        Checks.sentence("Promise 8", "Returns how many chars");
        CellNotebook notebook = Notebooks.withCells(16);
        Checks.same("an empty program", notebook.source(15), 0);
        Notebooks.program(notebook, 15, "a=b+c");
        Checks.same("the shortest statement", notebook.source(15), 6);
        Notebooks.programAnew(notebook, 15, LONGEST);
        Checks.same("the longest program", notebook.source(15), 72);
        notebook.clear(0, 15);
        Checks.same("a program that was cleared", notebook.source(15), 0);
    }

    private static void sourceThrows() {
        Checks.sentence("Promise 8", "Throws IndexOutOfBoundsException if there is no such cell");
        CellNotebook notebook = Notebooks.withCells(2);
        for (int cell : CallsBy.beyond(0, 1)) {
            Checks.outOfBounds("cell " + cell, notebook, () -> notebook.source(cell));
        }
    }

    private static void sourceCharIsAChar() {
        Checks.sentence("Promise 9", "Returns a char of a program that is written out", "place: 0 for the first one");
        CellNotebook notebook = Notebooks.withCells(1);
        Notebooks.program(notebook, 0, LONGEST);
        Checks.same("the first one", notebook.sourceChar(0, 0), 'a');
        Checks.same("the line feed of the first statement", notebook.sourceChar(0, 11), '\n');
        Checks.same("the first one of the last statement", notebook.sourceChar(0, 60), 'f');
        Checks.same("the last one", notebook.sourceChar(0, 71), '\n');
    }

    private static void sourceCharThrows() {
        Checks.sentence("Promise 9", "Throws IndexOutOfBoundsException if there is no such cell or place");
        CellNotebook notebook = Notebooks.withCells(2);
        Checks.outOfBounds("no place in an empty program", notebook, () -> notebook.sourceChar(0, 0));
        Notebooks.program(notebook, 0, "a=b+c");
        for (int cell : CallsBy.beyond(0, 1)) {
            Checks.outOfBounds("cell " + cell, notebook, () -> notebook.sourceChar(cell, 0));
        }
        for (int place : CallsBy.beyond(0, 5)) {
            Checks.outOfBounds("place " + place, notebook, () -> notebook.sourceChar(0, place));
        }
        Notebooks.programAnew(notebook, 0, LONGEST);
        Checks.outOfBounds("place 72", notebook, () -> notebook.sourceChar(0, 72));
        notebook.clear(0, 0);
        Checks.outOfBounds("no place in a program that was cleared", notebook, () -> notebook.sourceChar(0, 0));
    }
}
