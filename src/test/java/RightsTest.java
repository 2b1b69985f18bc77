/** Promises 10 and 11: rights by cell. */
final class RightsTest {
    private RightsTest() {
    }

    public static void main(String[] args) {
        Checks.run(
                RightsTest::rightsAreByGuestAndCell,
                RightsTest::theHostMayEdit,
                RightsTest::grantRefuses,
                RightsTest::rightRefuses);
        Checks.end();
    }

    private static void rightsAreByGuestAndCell() {
        CellNotebook notebook = Notebooks.withCells(2);
        Checks.same("right at first", notebook.right(4, 1), CellNotebook.NOTHING);
        Checks.same("grant", notebook.grant(4, 1, CellNotebook.EDIT), CellNotebook.NOTHING);
        Checks.same("grant of less", notebook.grant(4, 1, CellNotebook.SEE), CellNotebook.EDIT);
        Checks.same("grant of the same", notebook.grant(4, 1, CellNotebook.SEE), CellNotebook.SEE);
        Checks.same("right", notebook.right(4, 1), CellNotebook.SEE);
        Checks.same("right for another cell", notebook.right(4, 0), CellNotebook.NOTHING);
        Checks.same("right of another guest", notebook.right(3, 1), CellNotebook.NOTHING);
        notebook.addCell();
        Checks.same("right for a cell added later", notebook.right(4, 2), CellNotebook.NOTHING);
        Checks.same("grant to the first guest", notebook.grant(1, 0, CellNotebook.RUN), CellNotebook.NOTHING);
        Checks.same("grant of nothing", notebook.grant(1, 0, CellNotebook.NOTHING), CellNotebook.RUN);
        Checks.same("right then", notebook.right(1, 0), CellNotebook.NOTHING);
    }

    private static void theHostMayEdit() {
        CellNotebook notebook = Notebooks.withCells(2);
        Checks.same("right of the host", notebook.right(0, 0), CellNotebook.EDIT);
        Checks.same("right of the host", notebook.right(0, 1), CellNotebook.EDIT);
    }

    private static void grantRefuses() {
        CellNotebook notebook = Notebooks.withCells(2);
        for (int user : new int[] {-1, 0, 5, Integer.MIN_VALUE, Integer.MAX_VALUE}) {
            Checks.outOfBounds("grant, user " + user, notebook, () -> notebook.grant(user, 0, CellNotebook.SEE));
            Checks.outOfBounds("grant, no guest ahead of no right", notebook, () -> notebook.grant(user, 0, 4));
        }
        for (int cell : new int[] {-1, 2, Integer.MIN_VALUE, Integer.MAX_VALUE}) {
            Checks.outOfBounds("grant, cell " + cell, notebook, () -> notebook.grant(1, cell, CellNotebook.SEE));
            Checks.outOfBounds("grant, no cell ahead of no right", notebook, () -> notebook.grant(1, cell, -1));
        }
        for (int right : new int[] {-1, 4, Integer.MIN_VALUE, Integer.MAX_VALUE}) {
            Checks.illegalArgument("grant, right " + right, notebook, () -> notebook.grant(1, 0, right));
        }
    }

    private static void rightRefuses() {
        CellNotebook notebook = Notebooks.withCells(2);
        for (int user : new int[] {-1, 5, Integer.MIN_VALUE, Integer.MAX_VALUE}) {
            Checks.outOfBounds("right, user " + user, notebook, () -> notebook.right(user, 0));
        }
        for (int cell : new int[] {-1, 2, Integer.MIN_VALUE, Integer.MAX_VALUE}) {
            Checks.outOfBounds("right, cell " + cell, notebook, () -> notebook.right(0, cell));
        }
    }
}
