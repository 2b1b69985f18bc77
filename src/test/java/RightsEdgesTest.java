/** The boundary cases of promises 10 and 11: rights by cell. */
final class RightsEdgesTest {
    private RightsEdgesTest() {
    }

    public static void main(String[] args) {
        Checks.run(
                RightsEdgesTest::grantGivesARight,
                RightsEdgesTest::grantReturnsTheRightBefore,
                RightsEdgesTest::grantThrowsWithoutUserOrCell,
                RightsEdgesTest::grantThrowsForTheHost,
                RightsEdgesTest::grantThrowsOutOfRange,
                RightsEdgesTest::rightIsThatOfTheUser,
                RightsEdgesTest::rightOfTheHostIsEdit,
                RightsEdgesTest::rightThrows);
        Checks.end();
    }

    private static void grantGivesARight() {
        Checks.sentence("Promise 10", "Gives a guest a right", "user: 1 to 4", "right: NOTHING, SEE, RUN or EDIT");
        CellNotebook notebook = Notebooks.withCells(16);
        for (int guest = 1; guest <= 4; guest++) {
            for (int right = CellNotebook.EDIT; right >= CellNotebook.NOTHING; right--) {
                notebook.grant(guest, 0, right);
                notebook.grant(guest, 15, CellNotebook.EDIT - right);
                Checks.same("right, first cell", notebook.right(guest, 0), right);
                Checks.same("right, last cell", notebook.right(guest, 15), CellNotebook.EDIT - right);
                Checks.same("right, a cell between", notebook.right(guest, 1), CellNotebook.NOTHING);
            }
        }
    }

    private static void grantReturnsTheRightBefore() {
        Checks.sentence("Promise 10", "Returns the right before");
        CellNotebook notebook = Notebooks.withCells(1);
        for (int guest = 1; guest <= 4; guest++) {
            Checks.same("NOTHING at first", notebook.grant(guest, 0, CellNotebook.EDIT), CellNotebook.NOTHING);
            Checks.same("EDIT", notebook.grant(guest, 0, CellNotebook.EDIT), CellNotebook.EDIT);
            Checks.same("EDIT, the same again", notebook.grant(guest, 0, CellNotebook.SEE), CellNotebook.EDIT);
            Checks.same("SEE", notebook.grant(guest, 0, CellNotebook.RUN), CellNotebook.SEE);
            Checks.same("RUN", notebook.grant(guest, 0, CellNotebook.NOTHING), CellNotebook.RUN);
            Checks.same("NOTHING", notebook.grant(guest, 0, CellNotebook.NOTHING), CellNotebook.NOTHING);
        }
    }

    private static void grantThrowsWithoutUserOrCell() {
        Checks.sentence("Promise 10", "Throws IndexOutOfBoundsException if there is no such user or cell");
        CellNotebook notebook = Notebooks.withCells(2);
        for (int user : CallsBy.beyond(0, 4)) {
            Checks.outOfBounds("user " + user, notebook, () -> notebook.grant(user, 0, CellNotebook.SEE));
        }
        for (int cell : CallsBy.beyond(0, 1)) {
            Checks.outOfBounds("cell " + cell, notebook, () -> notebook.grant(1, cell, CellNotebook.SEE));
        }
    }

    private static void grantThrowsForTheHost() {
        Checks.sentence("Promise 10", "or the user is the host");
        CellNotebook notebook = Notebooks.withCells(1);
        for (int right = CellNotebook.NOTHING; right <= CellNotebook.EDIT; right++) {
            int given = right;
            Checks.outOfBounds("right " + right, notebook, () -> notebook.grant(0, 0, given));
        }
    }

    private static void grantThrowsOutOfRange() {
        Checks.sentence("Promise 10", "Throws IllegalArgumentException if right is out of range");
        CellNotebook notebook = Notebooks.withCells(1);
        for (int right : CallsBy.beyond(CellNotebook.NOTHING, CellNotebook.EDIT)) {
            Checks.illegalArgument("right " + right, notebook, () -> notebook.grant(1, 0, right));
            Checks.illegalArgument("right " + right, notebook, () -> notebook.grant(4, 0, right));
        }
    }

    private static void rightIsThatOfTheUser() {
        Checks.sentence("Promise 11", "Returns the right", "user: 0 to 4");
        CellNotebook notebook = Notebooks.withCells(16);
        for (int guest = 1; guest <= 4; guest++) {
            notebook.grant(guest, 15, guest - 1);
        }
        for (int guest = 1; guest <= 4; guest++) {
            Checks.same("right of " + guest, notebook.right(guest, 15), guest - 1);
            Checks.same("right of " + guest + " at first", notebook.right(guest, 0), CellNotebook.NOTHING);
        }
    }

    private static void rightOfTheHostIsEdit() {
        Checks.sentence("Promise 11", "EDIT for the host");
        CellNotebook notebook = Notebooks.withCells(16);
        for (int cell = 0; cell < 16; cell++) {
            Checks.same("right of the host", notebook.right(0, cell), CellNotebook.EDIT);
        }
    }

    private static void rightThrows() {
        Checks.sentence("Promise 11", "Throws IndexOutOfBoundsException if there is no such user or cell");
        CellNotebook notebook = Notebooks.withCells(2);
        for (int user : CallsBy.beyond(0, 4)) {
            Checks.outOfBounds("user " + user, notebook, () -> notebook.right(user, 0));
        }
        for (int cell : CallsBy.beyond(0, 1)) {
            Checks.outOfBounds("cell " + cell, notebook, () -> notebook.right(0, cell));
            Checks.outOfBounds("cell " + cell, notebook, () -> notebook.right(1, cell));
        }
    }
}
