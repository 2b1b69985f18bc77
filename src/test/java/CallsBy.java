import java.util.List;

/** The calls of the face by what they take, so that a sentence that speaks of all of them is tested on each. */
final class CallsBy {
    interface Call {
        Object answer(CellNotebook notebook, int argument);
    }

    record Named(String name, Call call) { }

    static final List<Named> CELL = List.of(
            new Named("write", (notebook, cell) -> notebook.write(0, cell, 0, 0, 600, 600)),
            new Named("clear", (notebook, cell) -> notebook.clear(0, cell)),
            new Named("move", (notebook, cell) -> notebook.move(cell, 0)),
            new Named("source", (notebook, cell) -> notebook.source(cell)),
            new Named("sourceChar", (notebook, cell) -> notebook.sourceChar(cell, 0)),
            new Named("grant", (notebook, cell) -> notebook.grant(1, cell, CellNotebook.SEE)),
            new Named("right", (notebook, cell) -> notebook.right(1, cell)),
            new Named("run", (notebook, cell) -> notebook.run(0, cell)),
            new Named("lastRun", (notebook, cell) -> notebook.lastRun(cell)),
            new Named("hasResult", (notebook, cell) -> notebook.hasResult(cell)),
            new Named("result", (notebook, cell) -> notebook.result(0, cell)),
            new Named("seen", (notebook, cell) -> notebook.seen(cell)),
            new Named("why", (notebook, cell) -> notebook.why(cell)));

    static final List<Named> USER = List.of(
            new Named("write", (notebook, user) -> notebook.write(user, 0, 0, 0, 600, 600)),
            new Named("clear", (notebook, user) -> notebook.clear(user, 0)),
            new Named("right", (notebook, user) -> notebook.right(user, 0)),
            new Named("run", (notebook, user) -> notebook.run(user, 0)),
            new Named("refresh", (notebook, user) -> notebook.refresh(user)),
            new Named("result", (notebook, user) -> notebook.result(user, 0)),
            new Named("forget", (notebook, user) -> notebook.forget(user)));

    static final Named GUEST = new Named("grant", (notebook, user) -> notebook.grant(user, 0, CellNotebook.SEE));

    static final List<Named> NAME = List.of(
            new Named("write", (notebook, name) -> notebook.write(0, 0, name, 0, 600, 600)),
            new Named("isSet", (notebook, name) -> notebook.isSet(name)),
            new Named("value", (notebook, name) -> notebook.value(name)),
            new Named("stamp", (notebook, name) -> notebook.stamp(name)),
            new Named("timesSeen", (notebook, name) -> notebook.timesSeen(name)),
            new Named("wouldBeStale", (notebook, name) -> notebook.wouldBeStale(name)),
            new Named("isSetInOrder", (notebook, name) -> notebook.isSetInOrder(name)),
            new Named("valueInOrder", (notebook, name) -> notebook.valueInOrder(name)));

    private CallsBy() {
    }

    /** 16 cells of a statement each that were run; all names are set, and all users may EDIT the first cell. */
    static CellNotebook busyNotebook() {
        CellNotebook notebook = Notebooks.withCells(16);
        for (int cell = 0; cell < 16; cell++) {
            notebook.write(0, cell, cell % Notebooks.NAMES, CellNotebook.PLUS, 600 + cell, 601);
        }
        for (int guest = 1; guest < Notebooks.USERS; guest++) {
            notebook.grant(guest, 0, CellNotebook.EDIT);
        }
        notebook.refresh(0);
        return notebook;
    }

    /** Each call, on a notebook of its own, takes all arguments from the lowest to the highest. */
    static void takeAll(List<Named> calls, int lowest, int highest) {
        for (Named named : calls) {
            for (int argument = lowest; argument <= highest; argument++) {
                takes(named, argument);
            }
        }
    }

    /** Each call refuses the numbers next to those that it takes, and the farthest ones. */
    static void refuseBeyond(CellNotebook notebook, List<Named> calls, int lowest, int highest) {
        for (Named named : calls) {
            for (int argument : beyond(lowest, highest)) {
                Checks.outOfBounds(named.name() + " with " + argument, notebook,
                        () -> named.call().answer(notebook, argument));
            }
        }
    }

    static int[] beyond(int lowest, int highest) {
        return new int[] {lowest - 1, highest + 1, Integer.MIN_VALUE, Integer.MAX_VALUE};
    }

    private static void takes(Named named, int argument) {
        CellNotebook notebook = busyNotebook();
        try {
            named.call().answer(notebook, argument);
        } catch (RuntimeException e) {
            Checks.fail(named.name() + " with " + argument + " throws " + Checks.thrownBy(e));
        }
    }
}
