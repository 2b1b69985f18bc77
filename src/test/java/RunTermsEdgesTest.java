/** The boundary cases of 'Terms' that speak of operations and runs: what a run does, sees and has as its result. */
final class RunTermsEdgesTest {
    // What each of these leaves in a is the end of the ints; b is 2 to the power of 30, or its negative.
    private static final String HIGHEST = "a=128*256;b=a*a;a=b-1;a=a+b";
    private static final String LOWEST = "a=128*256;b=a*a;b=0-b;a=b+b";

    private RunTermsEdgesTest() {
    }

    public static void main(String[] args) {
        Checks.run(
                RunTermsEdgesTest::aStatementSetsWhatComesOfTwoOperands,
                RunTermsEdgesTest::overIsRoundedTowardZero,
                RunTermsEdgesTest::runsAreNumbered,
                RunTermsEdgesTest::statementsAreDoneOneBehindTheOther,
                RunTermsEdgesTest::anUnsetOperandFails,
                RunTermsEdgesTest::aNameSetAheadInTheRunIsSet,
                RunTermsEdgesTest::plusThatIsNoIntFails,
                RunTermsEdgesTest::minusThatIsNoIntFails,
                RunTermsEdgesTest::timesThatIsNoIntFails,
                RunTermsEdgesTest::overThatIsNoIntFails,
                RunTermsEdgesTest::divisionByZeroFails,
                RunTermsEdgesTest::aFailureLeavesNamesAsTheyWere,
                RunTermsEdgesTest::namesSetHaveTheirNewValues,
                RunTermsEdgesTest::namesSetHaveTheRunAsStamp,
                RunTermsEdgesTest::anUnsetNameHasStampZero,
                RunTermsEdgesTest::namesSetAheadAreNotSeen,
                RunTermsEdgesTest::namesAreSeenWithTheStampsThatTheyHad,
                RunTermsEdgesTest::aFailureHasSeenWhatItRead,
                RunTermsEdgesTest::anUnsetNameIsSeen,
                RunTermsEdgesTest::theResultIsTheLastValue,
                RunTermsEdgesTest::noResultOfAFailure,
                RunTermsEdgesTest::noResultOfAnEmptyProgram,
                RunTermsEdgesTest::cellsHaveALastRunOrNone);
        Checks.end();
    }

    private static void comesTo(String program, int due) {
        CellNotebook notebook = Notebooks.withPrograms(program);
        Checks.same("run of " + program, notebook.run(0, 0), true);
        Checks.same("result of " + program, notebook.hasResult(0) ? notebook.result(0, 0) : 0, due);
        int name = program.charAt(program.lastIndexOf('=') - 1) - 'a';
        Checks.same("value in order of " + program, notebook.valueInOrder(name), due);
    }

    private static void fails(String program) {
        CellNotebook notebook = Notebooks.withPrograms(program);
        Checks.same("run of " + program, notebook.run(0, 0), false);
        Checks.same("names set by " + program, notebook.end(), 0);
        Checks.same("a set in order by " + program, notebook.isSetInOrder(Notebooks.A), false);
    }

    private static void aStatementSetsWhatComesOfTwoOperands() {
        Checks.sentence("Terms", "A statement sets a name to what comes of an operation with two operands: PLUS, "
                + "MINUS, TIMES, or OVER");
        comesTo("a=-500+-500", -1000);
        comesTo("a=500+-500", 0);
        comesTo("a=-500-500", -1000);
        comesTo("a=500--500", 1000);
        comesTo("a=-500*-500", 250000);
        comesTo("a=500*0", 0);
        comesTo("a=-500/500", -1);
        comesTo("a=1/500", 0);
        comesTo("a=7+0;b=a-2;h=b-a", -2);
        comesTo("a=7+0;b=a/2;h=a/b", 2);
    }

    private static void overIsRoundedTowardZero() {
        Checks.sentence("Terms", "OVER (the quotient, rounded toward 0)");
        comesTo("a=7/2", 3);
        comesTo("a=-7/2", -3);
        comesTo("a=7/-2", -3);
        comesTo("a=-7/-2", 3);
        comesTo("a=1/2", 0);
        comesTo("a=-1/2", 0);
        comesTo("a=1/-500", 0);
        comesTo("a=0/-3", 0);
        comesTo("a=6/-3", -2);
        comesTo(HIGHEST + ";c=a/2", 1073741823);
        comesTo(LOWEST + ";c=a/3", -715827882);
    }

    private static void runsAreNumbered() {
        Checks.sentence("Terms", "Runs are numbered from 1, all cells together");
        CellNotebook notebook = Notebooks.withCells(3);
        Notebooks.program(notebook, 1, "a=b+1");
        Notebooks.program(notebook, 2, "c=1+1");
        int[] cells = {2, 0, 1, 1, 2, 0};
        for (int i = 0; i < cells.length; i++) {
            notebook.run(0, cells[i]);
            Checks.same("number of the run of cell " + cells[i], notebook.lastRun(cells[i]), i + 1);
        }
        Checks.same("stamp", notebook.stamp(Notebooks.C), 5);
        Checks.same("log", Notebooks.log(notebook), "1020 2000 3010 4010 5020 6000 ");
    }

    private static void statementsAreDoneOneBehindTheOther() {
        Checks.sentence("Terms", "A run does the statements of the cell one behind the other");
        comesTo("a=1+1", 2);
        comesTo("a=1+1;b=a*5;a=a+b;b=b-a;a=a*a;h=a+b", 142);
        fails("b=a+1;a=1+1");
    }

    private static void anUnsetOperandFails() {
        Checks.sentence("Terms", "It fails at the first statement that has a name as an operand (the left one first) "
                + "that is unset");
        fails("a=b+1");
        fails("a=1+b");
        fails("a=a+1");
        fails("a=0*h");
        fails("a=1+1;b=2+2;c=3+3;d=4+4;e=5+5;f=g-1");
        CellNotebook left = Notebooks.withPrograms("a=1+1;c=g+h;d=e+f");
        left.run(0, 0);
        Checks.same("seen: the left one first, and no statement behind", left.seen(0), 1 << Notebooks.G);
        CellNotebook right = Notebooks.withPrograms("a=1+1;c=a+h;d=e+f");
        right.run(0, 0);
        Checks.same("seen: the right one, and no statement behind", right.seen(0), 1 << Notebooks.H);
    }

    private static void aNameSetAheadInTheRunIsSet() {
        Checks.sentence("Terms", "and that no statement ahead of it in this run has set");
        comesTo("b=1+1;a=b+b", 4);
        comesTo("h=1+1;b=2+2;c=3+3;d=4+4;e=5+5;a=h+1", 3);
        CellNotebook notebook = Notebooks.withPrograms("b=1+1;a=b/0");
        Notebooks.program(notebook, notebook.addCell(), "a=b+1");
        notebook.run(0, 0);
        Checks.same("a name that was set in a run that failed", notebook.run(0, 1), false);
    }

    private static void plusThatIsNoIntFails() {
        Checks.sentence("Terms, PLUS", "or whose operation comes to something that is no int");
        comesTo(HIGHEST + ";c=a+0", Integer.MAX_VALUE);
        fails(HIGHEST + ";c=a+1");
        fails(HIGHEST + ";c=a+a");
        comesTo(LOWEST + ";c=a+0", Integer.MIN_VALUE);
        fails(LOWEST + ";c=a+-1");
        fails(LOWEST + ";c=a+a");
    }

    private static void minusThatIsNoIntFails() {
        Checks.sentence("Terms, MINUS", "or whose operation comes to something that is no int");
        comesTo(LOWEST + ";c=-1-a", Integer.MAX_VALUE);
        fails(LOWEST + ";c=0-a");
        fails(HIGHEST + ";c=a--1");
        comesTo(HIGHEST + ";c=-1-a", Integer.MIN_VALUE);
        fails(HIGHEST + ";c=-2-a");
        fails(LOWEST + ";c=a-1");
    }

    private static void timesThatIsNoIntFails() {
        Checks.sentence("Terms, TIMES", "or whose operation comes to something that is no int");
        comesTo(LOWEST + ";c=b*2", Integer.MIN_VALUE);
        fails(LOWEST + ";c=b*-2");
        fails(LOWEST + ";c=a*-1");
        comesTo(HIGHEST + ";c=a*-1", -Integer.MAX_VALUE);
        fails(HIGHEST + ";c=b*2");
        fails(HIGHEST + ";c=a*a");
        fails(LOWEST + ";c=a*a");
        fails(LOWEST + ";c=b*4");
    }

    private static void overThatIsNoIntFails() {
        Checks.sentence("Terms, OVER", "or whose operation comes to something that is no int");
        fails(LOWEST + ";c=a/-1");
        comesTo(LOWEST + ";c=a/1", Integer.MIN_VALUE);
        comesTo(LOWEST + ";c=a/-2", 1073741824);
        comesTo(HIGHEST + ";c=a/-1", -Integer.MAX_VALUE);
    }

    private static void divisionByZeroFails() {
        Checks.sentence("Terms", "or divides by 0");
        fails("a=1/0");
        fails("a=0/0");
        fails("a=-500/0");
        fails("a=1-1;b=5/a");
        fails("a=1-1;b=a/a");
        comesTo("a=0/1", 0);
        comesTo("a=0*0", 0);
    }

    private static void aFailureLeavesNamesAsTheyWere() {
        Checks.sentence("Terms", "then all names are as they were ahead of the run");
        CellNotebook notebook = Notebooks.withPrograms("a=5+0;b=6+0");
        notebook.addCell();
        notebook.run(0, 0);
        String[] failures = {"a=1+1;b=2+2;c=3+3;h=4+4;d=c/0", "a=1+1;b=h+1", "a=500*500;c=500*500;b=a*c"};
        for (String failure : failures) {
            Notebooks.programAnew(notebook, 1, failure);
            Checks.same("run of " + failure, notebook.run(0, 1), false);
            Checks.same("a", notebook.value(Notebooks.A), 5);
            Checks.same("b", notebook.value(Notebooks.B), 6);
            Checks.same("stamp of a", notebook.stamp(Notebooks.A), 1);
            Checks.same("stamp of b", notebook.stamp(Notebooks.B), 1);
            Checks.same("how many names are set", notebook.restore(notebook.keep()), 2);
        }
    }

    private static void namesSetHaveTheirNewValues() {
        Checks.sentence("Terms", "Otherwise the names that it has set have their new values");
        CellNotebook notebook = Notebooks.withPrograms("a=1+1;a=a+5;b=a*a;a=a-9");
        Checks.same("run", notebook.run(0, 0), true);
        Checks.same("a, set last", notebook.value(Notebooks.A), -2);
        Checks.same("b", notebook.value(Notebooks.B), 49);
        Checks.same("c, not set", notebook.isSet(Notebooks.C), false);
        Notebooks.programAnew(notebook, 0, "a=b+0");
        notebook.run(0, 0);
        Checks.same("a, set again", notebook.value(Notebooks.A), 49);
        Checks.same("b stays", notebook.value(Notebooks.B), 49);
    }

    private static void namesSetHaveTheRunAsStamp() {
        Checks.sentence("Terms", "and their stamp is the number of the run");
        CellNotebook notebook = Notebooks.withPrograms("a=1+1;h=1+1");
        notebook.addCell();
        Notebooks.program(notebook, 1, "a=a+0");
        notebook.run(0, 0);
        Checks.same("stamp of a", notebook.stamp(Notebooks.A), 1);
        notebook.run(0, 1);
        Checks.same("stamp of a, set to the same value", notebook.stamp(Notebooks.A), 2);
        Checks.same("stamp of h, not set again", notebook.stamp(Notebooks.H), 1);
    }

    private static void anUnsetNameHasStampZero() {
        Checks.sentence("Terms", "the stamp of a name that is unset is 0");
        CellNotebook notebook = Notebooks.withPrograms("a=1+1;b=1+1");
        Notebooks.program(notebook, notebook.addCell(), "c=a/0");
        Checks.same("stamp at first", notebook.stamp(Notebooks.A), 0);
        notebook.run(0, 0);
        notebook.run(0, 1);
        Checks.same("stamp of a name that only a failure has set", notebook.stamp(Notebooks.C), 0);
        notebook.end();
        Checks.same("stamp of a behind the end", notebook.stamp(Notebooks.A), 0);
        Checks.same("stamp of b behind the end", notebook.stamp(Notebooks.B), 0);
    }

    private static void seesOf(String program, int due) {
        CellNotebook notebook = Notebooks.withPrograms("a=1+1;b=2+2;c=3+3;d=4+4;e=5-5");
        notebook.run(0, 0);
        Notebooks.programAnew(notebook, 0, program);
        notebook.run(0, 0);
        Checks.same("seen by " + program, notebook.seen(0), due);
    }

    private static void namesSetAheadAreNotSeen() {
        Checks.sentence("Terms", "A run has seen those names that it has read, where no statement ahead had set them "
                + "in this run");
        seesOf("a=1+1;b=a+a;c=b*a", 0);
        seesOf("a=a+1", 1);
        seesOf("a=a+1;a=a+1", 1);
        seesOf("b=a+a;a=1+1;b=a+b", 1);
        seesOf("h=c+d;c=h+1;a=c+b", 14);
    }

    private static void namesAreSeenWithTheStampsThatTheyHad() {
        Checks.sentence("Terms", "with the stamps that they had");
        CellNotebook notebook = Notebooks.withPrograms("a=1+1;b=1+1");
        notebook.addCell();
        Notebooks.program(notebook, 1, "c=a+b;a=c+1;c=a+b");
        notebook.run(0, 0);
        notebook.run(0, 1);
        Checks.same("a was seen ahead of being set", notebook.why(1), CellNotebook.CHANGED);
        Notebooks.programAnew(notebook, 1, "c=b+b");
        notebook.run(0, 1);
        Checks.same("b was seen as it still is", notebook.why(1), 0);
    }

    private static void aFailureHasSeenWhatItRead() {
        Checks.sentence("Terms", "(those read until it failed, if it failed");
        seesOf("h=a+b;h=e/e;h=c+d", 19);
        seesOf("h=a/0;h=b+c", 1);
        seesOf("h=500*500;h=h*a;a=h*h;b=c+d", 1);
        seesOf("h=a+g;b=c+d", 65);
        seesOf("h=a+b;h=g+c;h=d+d", 67);
    }

    private static void anUnsetNameIsSeen() {
        Checks.sentence("Terms", "the unset one, too)");
        seesOf("a=g+1", 64);
        seesOf("a=1+h", 128);
        seesOf("f=f+f", 32);
        CellNotebook notebook = Notebooks.withPrograms("a=g+1");
        Notebooks.program(notebook, notebook.addCell(), "g=1+1");
        notebook.run(0, 0);
        Checks.same("it was seen as unset", notebook.why(0), 0);
        notebook.run(0, 1);
        Checks.same("and is set then", notebook.why(0), CellNotebook.CHANGED);
        Checks.same("times seen", notebook.timesSeen(Notebooks.G), 1);
    }

    private static void theResultIsTheLastValue() {
        Checks.sentence("Terms", "Its result is the value that its last statement has set");
        comesTo("a=1-1", 0);
        comesTo("a=1-2", -1);
        comesTo(LOWEST, Integer.MIN_VALUE);
        comesTo("a=1+1;b=2+2;c=3+3;d=4+4;e=5+5;a=6+6", 12);
        comesTo("a=1+1;a=a+1", 3);
    }

    private static void noResultOfAFailure() {
        Checks.sentence("Terms", "a run that failed");
        String[] failures = {"a=1+1;b=g+1", "a=1+1;b=a/0", LOWEST + ";c=a-1"};
        CellNotebook notebook = Notebooks.withCells(1);
        for (String failure : failures) {
            Notebooks.programAnew(notebook, 0, "a=3+3");
            notebook.run(0, 0);
            Checks.same("result of a run that does not fail", notebook.hasResult(0), true);
            Notebooks.programAnew(notebook, 0, failure);
            notebook.run(0, 0);
            Checks.same("result of " + failure, notebook.hasResult(0), false);
        }
    }

    private static void noResultOfAnEmptyProgram() {
        Checks.sentence("Terms", "or of an empty program, has no result");
        CellNotebook notebook = Notebooks.withCells(1);
        Checks.same("run", notebook.run(0, 0), true);
        Checks.same("result of a program empty at first", notebook.hasResult(0), false);
        Notebooks.program(notebook, 0, "a=1+1");
        notebook.run(0, 0);
        Checks.same("result of a statement", notebook.hasResult(0), true);
        notebook.clear(0, 0);
        Checks.same("result of the run ahead of the clearing", notebook.hasResult(0), true);
        Checks.same("run", notebook.run(0, 0), true);
        Checks.same("result of a program that was cleared", notebook.hasResult(0), false);
        Checks.same("what was seen", notebook.seen(0), 0);
    }

    private static void cellsHaveALastRunOrNone() {
        Checks.sentence("Terms", "Each cell has a last run, or none");
        CellNotebook notebook = Notebooks.withCells(16);
        Notebooks.program(notebook, 15, "a=b+1");
        for (int cell = 0; cell < 16; cell++) {
            Checks.same("last run at first", notebook.lastRun(cell), 0);
        }
        notebook.run(0, 15);
        Checks.same("last run, that failed", notebook.lastRun(15), 1);
        Checks.same("no last run", notebook.lastRun(14), 0);
        notebook.run(0, 14);
        Checks.same("last run of an empty program", notebook.lastRun(14), 2);
        Checks.same("last run stays", notebook.lastRun(15), 1);
    }
}
