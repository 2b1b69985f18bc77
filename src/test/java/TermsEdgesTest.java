import java.util.List;

/** The boundary cases of 'Terms' that speak of cells, programs, names, operands, users, rights and exceptions. */
final class TermsEdgesTest {
    private static final int PLUS = CellNotebook.PLUS;

    private TermsEdgesTest() {
    }

    public static void main(String[] args) {
        Checks.run(
                TermsEdgesTest::anObjectIsUsedForManyCalls,
                TermsEdgesTest::cellsAreNumbered,
                TermsEdgesTest::cellsStandInAnOrder,
                TermsEdgesTest::programsAreRows,
                TermsEdgesTest::namesAreEight,
                TermsEdgesTest::namesAreUnsetOrHaveAnInt,
                TermsEdgesTest::operandsAreNamesOrNumbers,
                TermsEdgesTest::numbersAreLessSixHundred,
                TermsEdgesTest::textsAreStatements,
                TermsEdgesTest::textsWriteNamesAndNumbers,
                TermsEdgesTest::usersAreFive,
                TermsEdgesTest::guestsHaveARightForEachCell,
                TermsEdgesTest::outOfBoundsIfThereIsNone,
                TermsEdgesTest::illegalArgumentIfOutOfRange,
                TermsEdgesTest::theFirstListedIsThrown,
                TermsEdgesTest::aThrowChangesNothing,
                TermsEdgesTest::aThrowChangesNothingThatIsKept);
        Checks.end();
    }

    private static void anObjectIsUsedForManyCalls() {
        Checks.sentence("The public face", "An object is used for at most 512 calls after it has been made");
        CellNotebook notebook = Notebooks.withCells(16);
        for (int call = 0; call < 16 * 6; call++) {
            Checks.same("write", notebook.write(0, call % 16, call % 8, PLUS, call % 8, 600), call / 16 + 1);
        }
        for (int call = 16 + 16 * 6; call < 512; call++) {
            Checks.same("run, as call " + (call + 1), notebook.run(0, call % 16), false);
        }
    }

    private static void cellsAreNumbered() {
        Checks.sentence("Terms", "Cells are numbered from 0, at most 16");
        CellNotebook notebook = new CellNotebook();
        for (int cell = 0; cell < 16; cell++) {
            Checks.same("addCell", notebook.addCell(), cell);
        }
        Checks.illegalState("addCell beyond 16", notebook, () -> notebook.addCell());
        CallsBy.takeAll(CallsBy.CELL, 0, 15);
        CallsBy.refuseBeyond(CallsBy.busyNotebook(), CallsBy.CELL, 0, 15);
    }

    private static void cellsStandInAnOrder() {
        Checks.sentence("Terms", "and stand in an order, at first that of their numbers");
        CellNotebook notebook = Notebooks.withCells(16);
        for (int place = 0; place < 16; place++) {
            Checks.same("cellAt " + place, notebook.cellAt(place), place);
        }
    }

    private static void programsAreRows() {
        Checks.sentence("Terms", "A cell has a program, a row of at most 6 statements, empty at first");
        CellNotebook notebook = Notebooks.withCells(16);
        for (int cell = 0; cell < 16; cell++) {
            Checks.same("statements at first", notebook.clear(0, cell), 0);
            for (int statement = 1; statement <= 6; statement++) {
                Checks.same("write", notebook.write(0, cell, 0, PLUS, 600, 600), statement);
            }
        }
        Checks.illegalState("a seventh statement", notebook, () -> notebook.write(0, 0, 0, PLUS, 600, 600));
        Checks.illegalState("a seventh, last cell", notebook, () -> notebook.write(0, 15, 0, PLUS, 600, 600));
    }

    private static void namesAreEight() {
        Checks.sentence("Terms", "There are the names 0 to 7");
        CallsBy.takeAll(CallsBy.NAME, 0, 7);
        CallsBy.refuseBeyond(CallsBy.busyNotebook(), CallsBy.NAME, 0, 7);
    }

    private static void namesAreUnsetOrHaveAnInt() {
        Checks.sentence("Terms", "each is unset, as at first, or has a value, an int");
        CellNotebook notebook = Notebooks.withCells(1);
        for (int name = 0; name < Notebooks.NAMES; name++) {
            int unset = name;
            Checks.same("isSet at first", notebook.isSet(name), false);
            Checks.illegalState("value at first", notebook, () -> notebook.value(unset));
        }
        Notebooks.program(notebook, 0, "g=128*256;g=g*g;h=g-1;h=h+g;g=0-g;g=g+g");
        Checks.same("run", notebook.run(0, 0), true);
        Checks.same("the highest int", notebook.value(Notebooks.H), Integer.MAX_VALUE);
        Checks.same("the lowest int", notebook.value(Notebooks.G), Integer.MIN_VALUE);
        Notebooks.programAnew(notebook, 0, "f=1-1");
        notebook.run(0, 0);
        Checks.same("0 is a value", notebook.isSet(Notebooks.F), true);
        Checks.same("0", notebook.value(Notebooks.F), 0);
    }

    private static void operandsAreNamesOrNumbers() {
        Checks.sentence("Terms", "An operand is a name, 0 to 7, or a number: 100 to 1100");
        CellNotebook notebook = Notebooks.withCells(1);
        for (int operand = -2; operand <= 1103; operand++) {
            boolean due = operand >= 0 && operand <= 7 || operand >= 100 && operand <= 1100;
            Checks.same("is operand " + operand + " taken on the left", isTaken(notebook, operand, 600), due);
            Checks.same("is operand " + operand + " taken on the right", isTaken(notebook, 600, operand), due);
        }
    }

    // One object for all operands: the class does not count its calls.
    private static boolean isTaken(CellNotebook notebook, int left, int right) {
        try {
            notebook.write(0, 0, 0, PLUS, left, right);
        } catch (IllegalArgumentException e) {
            return false;
        }
        notebook.clear(0, 0);
        return true;
    }

    private static void numbersAreLessSixHundred() {
        Checks.sentence("Terms", "for the number less 600");
        int[][] numbers = {{100, -500}, {101, -499}, {599, -1}, {600, 0}, {601, 1}, {1099, 499}, {1100, 500}};
        for (int[] number : numbers) {
            CellNotebook notebook = Notebooks.withCells(1);
            notebook.write(0, 0, Notebooks.A, PLUS, number[0], 600);
            notebook.write(0, 0, Notebooks.B, CellNotebook.MINUS, 600, number[0]);
            notebook.run(0, 0);
            Checks.same("left operand " + number[0], notebook.value(Notebooks.A), number[1]);
            Checks.same("right operand " + number[0], notebook.value(Notebooks.B), -number[1]);
        }
    }

    private static void textsAreStatements() {
        Checks.sentence("Terms", "each statement as the name that is set, =, the left operand, one of + - * /, "
                + "the right operand, and a line feed");
        CellNotebook notebook = Notebooks.withCells(2);
        for (int operation = 0; operation < 4; operation++) {
            notebook.write(0, 0, Notebooks.A, operation, Notebooks.B, Notebooks.C);
        }
        Checks.same("text", Notebooks.text(notebook, 0), "a=b+c\na=b-c\na=b*c\na=b/c\n");
        Checks.same("text of an empty program", Notebooks.text(notebook, 1), "");
    }

    private static void textsWriteNamesAndNumbers() {
        Checks.sentence("Terms", "names are the letters a to h, numbers are written in decimal, with - ahead of "
                + "those below 0");
        CellNotebook notebook = Notebooks.withCells(3);
        int[] numbers = {100, 599, 600, 601, 690, 1100};
        for (int i = 0; i < 6; i++) {
            notebook.write(0, 0, i, PLUS, i, i + 1);
            notebook.write(0, 1, 6 + i % 2, PLUS, 7 - i % 2, numbers[i]);
            notebook.write(0, 2, 0, CellNotebook.MINUS, numbers[i], numbers[5 - i]);
        }
        Checks.same("names", Notebooks.text(notebook, 0), "a=a+b\nb=b+c\nc=c+d\nd=d+e\ne=e+f\nf=f+g\n");
        Checks.same("numbers", Notebooks.text(notebook, 1), "g=h+-500\nh=g+-1\ng=h+0\nh=g+1\ng=h+90\nh=g+500\n");
        Checks.same("numbers on both sides", Notebooks.text(notebook, 2),
                "a=-500-500\na=-1-90\na=0-1\na=1-0\na=90--1\na=500--500\n");
    }

    private static void usersAreFive() {
        Checks.sentence("Terms", "The users are 0 to 4; 0 is the host, who may do all");
        CallsBy.takeAll(CallsBy.USER, 0, 4);
        CallsBy.refuseBeyond(CallsBy.busyNotebook(), CallsBy.USER, 0, 4);
        CallsBy.takeAll(List.of(CallsBy.GUEST), 1, 4);
        CellNotebook notebook = Notebooks.withCells(16);
        for (int cell = 0; cell < 16; cell++) {
            Checks.same("write by the host", notebook.write(0, cell, 0, PLUS, 600, 600), 1);
            Checks.same("run by the host", notebook.run(0, cell), true);
            Checks.same("result for the host", notebook.result(0, cell), 0);
            Checks.same("clear by the host", notebook.clear(0, cell), 1);
        }
        Checks.same("refresh by the host", notebook.refresh(0), 16);
    }

    private static void guestsHaveARightForEachCell() {
        Checks.sentence("Terms", "A guest has a right for each cell: NOTHING, as at first, SEE, RUN or EDIT, of which "
                + "each includes those ahead of it");
        for (int guest = 1; guest < Notebooks.USERS; guest++) {
            CellNotebook notebook = Notebooks.withCells(2);
            notebook.write(0, 0, 0, PLUS, 600, 600);
            notebook.run(0, 0);
            Checks.same("what a guest may at first", whatAGuestMay(notebook, guest), 0);
            for (int right = CellNotebook.NOTHING; right <= CellNotebook.EDIT; right++) {
                notebook.grant(guest, 0, right);
                Checks.same("what a guest may with right " + right, whatAGuestMay(notebook, guest), right);
            }
            Checks.same("the right for the other cell", notebook.right(guest, 1), CellNotebook.NOTHING);
        }
    }

    /** How many of seeing, running and editing the first cell the guest may; each shall include those ahead. */
    private static int whatAGuestMay(CellNotebook notebook, int guest) {
        int[] may = {1, 1, 1};
        try {
            notebook.result(guest, 0);
        } catch (IllegalStateException e) {
            may[0] = 0;
        }
        try {
            notebook.run(guest, 0);
        } catch (IllegalStateException e) {
            may[1] = 0;
        }
        try {
            notebook.write(guest, 0, 0, PLUS, 600, 600);
        } catch (IllegalStateException e) {
            may[2] = 0;
        }
        Checks.same("running includes seeing", may[1] <= may[0], true);
        Checks.same("editing includes running", may[2] <= may[1], true);
        return may[0] + may[1] + may[2];
    }

    private static void outOfBoundsIfThereIsNone() {
        Checks.sentence("Terms", "An IndexOutOfBoundsException is thrown if there is no such cell, name, user, image, "
                + "place or run");
        CellNotebook notebook = new CellNotebook();
        for (CallsBy.Named named : CallsBy.CELL) {
            Checks.outOfBounds(named.name() + " without cells", notebook, () -> named.call().answer(notebook, 0));
        }
        Checks.outOfBounds("restore without images", notebook, () -> notebook.restore(0));
        Checks.outOfBounds("cellAt without places", notebook, () -> notebook.cellAt(0));
        Checks.outOfBounds("logAt without runs", notebook, () -> notebook.logAt(0));
        notebook.addCell();
        notebook.keep();
        notebook.run(0, 0);
        for (CallsBy.Named named : CallsBy.CELL) {
            Checks.outOfBounds(named.name() + " of a cell not yet there", notebook,
                    () -> named.call().answer(notebook, 1));
        }
        Checks.outOfBounds("restore of an image not yet there", notebook, () -> notebook.restore(1));
        Checks.outOfBounds("cellAt of a place not yet there", notebook, () -> notebook.cellAt(1));
        Checks.outOfBounds("move to a place not yet there", notebook, () -> notebook.move(0, 1));
        Checks.outOfBounds("logAt of a run not yet there", notebook, () -> notebook.logAt(1));
    }

    private static void illegalArgumentIfOutOfRange() {
        Checks.sentence("Terms", "an IllegalArgumentException if another argument is out of its range");
        makeCallsOutOfRange(CallsBy.busyNotebook());
    }

    private static void theFirstListedIsThrown() {
        Checks.sentence("Terms", "If several exceptions of a throws clause apply, the one that is listed first is "
                + "thrown");
        CellNotebook notebook = Notebooks.withCells(1);
        Notebooks.program(notebook, 0, "a=1+1;a=1+1;a=1+1;a=1+1;a=1+1;a=1+1");
        int[][] noIndex = {{5, 0, 0}, {1, 1, 0}, {1, 0, 8}, {0, 0, -1}, {0, -1, 0}};
        for (int[] row : noIndex) {
            Checks.outOfBounds("write, no index, no operation", notebook,
                    () -> notebook.write(row[0], row[1], row[2], 4, 600, 600));
            Checks.outOfBounds("write, no index, no left operand", notebook,
                    () -> notebook.write(row[0], row[1], row[2], PLUS, 8, 600));
            Checks.outOfBounds("write, no index, no right operand", notebook,
                    () -> notebook.write(row[0], row[1], row[2], PLUS, 600, 8));
            Checks.outOfBounds("write, no index, no right or a full program", notebook,
                    () -> notebook.write(row[0], row[1], row[2], PLUS, 600, 600));
        }
        for (int user = 0; user < Notebooks.USERS; user++) {
            int writer = user;
            Checks.illegalArgument("write, no operation, no right or a full program", notebook,
                    () -> notebook.write(writer, 0, 0, -1, 600, 600));
            Checks.illegalArgument("write, no left operand, no right or a full program", notebook,
                    () -> notebook.write(writer, 0, 0, PLUS, 99, 600));
            Checks.illegalArgument("write, no right operand, no right or a full program", notebook,
                    () -> notebook.write(writer, 0, 0, PLUS, 600, 1101));
        }
        Checks.outOfBounds("clear, no cell, no right", notebook, () -> notebook.clear(1, 1));
        Checks.outOfBounds("run, no cell, no right", notebook, () -> notebook.run(1, 1));
        Checks.outOfBounds("result, no cell, no right", notebook, () -> notebook.result(1, 1));
        Checks.outOfBounds("grant, no cell, no right", notebook, () -> notebook.grant(1, 1, 4));
        Checks.outOfBounds("grant, no user, no right", notebook, () -> notebook.grant(5, 0, 4));
        Checks.outOfBounds("grant, the host, no right", notebook, () -> notebook.grant(0, 0, 4));
        for (int run = 0; run < 400; run++) {
            notebook.run(0, 0);
        }
        Checks.outOfBounds("run, no cell, 400 runs", notebook, () -> notebook.run(0, 1));
        Checks.outOfBounds("run, no user, 400 runs", notebook, () -> notebook.run(5, 0));
        Checks.outOfBounds("refresh, no user, 400 runs", notebook, () -> notebook.refresh(-1));
    }

    private static void aThrowChangesNothing() {
        Checks.sentence("Terms", "A call that throws an exception changes nothing");
        CellNotebook notebook = withAllKindsOfState();
        makeCallsWithoutIndex(notebook);
        makeCallsOutOfRange(notebook);
        makeCallsAgainstTheState(notebook);
    }

    private static void aThrowChangesNothingThatIsKept() {
        Checks.sentence("Terms", "A call that throws an exception changes nothing");
        CellNotebook notebook = withAllKindsOfState();
        CellNotebook twin = withAllKindsOfState();
        makeCallsWithoutIndex(notebook);
        makeCallsOutOfRange(notebook);
        makeCallsAgainstTheState(notebook);
        for (int image = 9; image >= 0; image--) {
            Checks.same("restore", notebook.restore(image), twin.restore(image));
            Checks.same("answers then", Notebooks.allAnswers(notebook), Notebooks.allAnswers(twin));
            Checks.same("refresh", notebook.refresh(0), twin.refresh(0));
            Checks.same("answers then", Notebooks.allAnswers(notebook), Notebooks.allAnswers(twin));
        }
    }

    /**
     * 16 cells, some stale, some not (12, with a statement; 14, with 6; 15, empty), some run by guests; 10 images;
     * names that are unset; runs that were forgotten.
     */
    private static CellNotebook withAllKindsOfState() {
        CellNotebook notebook = CallsBy.busyNotebook();
        for (int image = 0; image < 10; image++) {
            notebook.run(image % Notebooks.USERS, 0);
            notebook.write(0, image + 1, image % 3, PLUS, image % 4, 601);
            notebook.run(0, image + 2);
            notebook.keep();
        }
        notebook.move(12, 3);
        notebook.forget(2);
        notebook.end();
        notebook.run(0, 0);
        notebook.write(0, 13, 0, PLUS, 600, 600);
        for (int statement = 1; statement < 6; statement++) {
            notebook.write(0, 14, 7, PLUS, 600, 600);
        }
        notebook.clear(0, 15);
        notebook.run(0, 15);
        notebook.run(0, 14);
        notebook.end();
        notebook.run(0, 0);
        return notebook;
    }

    private static void makeCallsWithoutIndex(CellNotebook notebook) {
        CallsBy.refuseBeyond(notebook, CallsBy.CELL, 0, 15);
        CallsBy.refuseBeyond(notebook, CallsBy.USER, 0, 4);
        CallsBy.refuseBeyond(notebook, List.of(CallsBy.GUEST), 1, 4);
        CallsBy.refuseBeyond(notebook, CallsBy.NAME, 0, 7);
        for (int number : CallsBy.beyond(0, 500)) {
            Checks.outOfBounds("move", notebook, () -> notebook.move(0, number));
            Checks.outOfBounds("cellAt", notebook, () -> notebook.cellAt(number));
            Checks.outOfBounds("sourceChar", notebook, () -> notebook.sourceChar(0, number));
            Checks.outOfBounds("restore", notebook, () -> notebook.restore(number));
            Checks.outOfBounds("logAt", notebook, () -> notebook.logAt(number));
        }
    }

    private static void makeCallsOutOfRange(CellNotebook notebook) {
        for (int number : CallsBy.beyond(0, 3)) {
            Checks.illegalArgument("write", notebook, () -> notebook.write(0, 12, 0, number, 600, 600));
            Checks.illegalArgument("grant", notebook, () -> notebook.grant(1, 0, number));
        }
        for (int number : CallsBy.beyond(0, 7)) {
            Checks.illegalArgument("write", notebook, () -> notebook.write(0, 12, 0, PLUS, number, 600));
            Checks.illegalArgument("write", notebook, () -> notebook.write(0, 12, 0, PLUS, 600, number));
        }
    }

    private static void makeCallsAgainstTheState(CellNotebook notebook) {
        Checks.illegalState("addCell", notebook, () -> notebook.addCell());
        Checks.same("cells that are not stale", notebook.stale() & (1 << 12 | 1 << 14 | 1 << 15), 0);
        Checks.illegalState("write without a right", notebook, () -> notebook.write(1, 12, 0, PLUS, 600, 600));
        Checks.illegalState("write, full", notebook, () -> notebook.write(0, 14, 0, PLUS, 600, 600));
        Checks.illegalState("clear without a right", notebook, () -> notebook.clear(1, 12));
        Checks.illegalState("run without a right", notebook, () -> notebook.run(1, 1));
        Checks.illegalState("value, unset", notebook, () -> notebook.value(Notebooks.H));
        Checks.illegalState("result without a right", notebook, () -> notebook.result(1, 1));
        Checks.illegalState("result, none", notebook, () -> notebook.result(0, 15));
        Checks.illegalState("keep", notebook, () -> notebook.keep());
    }
}
