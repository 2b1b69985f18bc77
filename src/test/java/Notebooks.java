/** Notebooks that tests begin with, and short ways to write and read them. */
final class Notebooks {
    static final int HOST = 0;
    static final int NAMES = 8;
    static final int USERS = 5;
    static final int A = 0, B = 1, C = 2, D = 3, E = 4, F = 5, G = 6, H = 7;

    private Notebooks() {
    }

    static CellNotebook withCells(int count) {
        CellNotebook notebook = new CellNotebook();
        for (int i = 0; i < count; i++) {
            notebook.addCell();
        }
        return notebook;
    }

    /** A cell for each of the programs; nothing is run. */
    static CellNotebook withPrograms(String... programs) {
        CellNotebook notebook = withCells(programs.length);
        for (int cell = 0; cell < programs.length; cell++) {
            program(notebook, cell, programs[cell]);
        }
        return notebook;
    }

    /** The operand for a number from -500 to 500. */
    static int number(int value) {
        return value + 600;
    }

    /** Writes statements such as "a=b+-3;c=a*a" at the end of a program, as the host. */
    static void program(CellNotebook notebook, int cell, String statements) {
        for (String statement : statements.split(";")) {
            int sign = 3;
            while ("+-*/".indexOf(statement.charAt(sign)) < 0) {
                sign++;
            }
            notebook.write(HOST, cell, statement.charAt(0) - 'a', "+-*/".indexOf(statement.charAt(sign)),
                    operand(statement.substring(2, sign)), operand(statement.substring(sign + 1)));
        }
    }

    /** The statements in the place of the program that is there. */
    static void programAnew(CellNotebook notebook, int cell, String statements) {
        notebook.clear(HOST, cell);
        program(notebook, cell, statements);
    }

    static void runAnew(CellNotebook notebook, int cell, String statements) {
        programAnew(notebook, cell, statements);
        notebook.run(HOST, cell);
    }

    static String text(CellNotebook notebook, int cell) {
        StringBuilder text = new StringBuilder();
        int length = notebook.source(cell);
        for (int place = 0; place < length; place++) {
            text.append(notebook.sourceChar(cell, place));
        }
        return text.toString();
    }

    static String order(CellNotebook notebook) {
        StringBuilder order = new StringBuilder();
        for (int place = 0; place < notebook.cellCount(); place++) {
            order.append(notebook.cellAt(place)).append(' ');
        }
        return order.toString();
    }

    static String log(CellNotebook notebook) {
        StringBuilder log = new StringBuilder();
        for (int place = 0; place < notebook.logged(); place++) {
            log.append(notebook.logAt(place)).append(' ');
        }
        return log.toString();
    }

    /** All that can be asked of a notebook (but images) as one text. */
    static String allAnswers(CellNotebook notebook) {
        StringBuilder all = new StringBuilder();
        all.append(order(notebook)).append("runs ").append(notebook.runs()).append(" log ").append(log(notebook));
        all.append("stale ").append(notebook.stale()).append(" unlike ").append(notebook.unlikeInOrder());
        for (int name = 0; name < NAMES; name++) {
            appendName(all, notebook, name);
        }
        for (int cell = 0; cell < notebook.cellCount(); cell++) {
            appendCell(all, notebook, cell);
        }
        return all.toString();
    }

    private static void appendName(StringBuilder all, CellNotebook notebook, int name) {
        all.append("\nname ").append(name).append(' ').append(notebook.stamp(name));
        all.append(' ').append(notebook.isSet(name) ? notebook.value(name) : "unset");
        all.append(' ').append(notebook.isSetInOrder(name) ? notebook.valueInOrder(name) : "unset");
        all.append(' ').append(notebook.timesSeen(name)).append(' ').append(notebook.wouldBeStale(name));
    }

    private static void appendCell(StringBuilder all, CellNotebook notebook, int cell) {
        all.append("\ncell ").append(cell).append(' ').append(text(notebook, cell).replace('\n', ';'));
        all.append(' ').append(notebook.lastRun(cell)).append(' ').append(notebook.seen(cell));
        all.append(' ').append(notebook.hasResult(cell) ? notebook.result(HOST, cell) : "none");
        all.append(' ').append(notebook.why(cell));
        for (int user = 0; user < USERS; user++) {
            all.append(' ').append(notebook.right(user, cell));
        }
    }

    private static int operand(String text) {
        char first = text.charAt(0);
        return first >= 'a' && first <= 'h' ? first - 'a' : number(Integer.parseInt(text));
    }
}
