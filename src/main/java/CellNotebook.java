import java.util.ArrayList;

/** A notebook of cells that are run: their programs read and set names, and their results become stale. */
public final class CellNotebook {
    public static final int PLUS = 0, MINUS = 1, TIMES = 2, OVER = 3;
    public static final int NOTHING = 0, SEE = 1, RUN = 2, EDIT = 3;
    public static final int EDITED = 1, CHANGED = 2, RESTING = 4;

    private static final int MOST_CELLS = 16;
    private static final int MOST_STATEMENTS = 6;
    private static final int MOST_RUNS = 400;
    private static final int MOST_RUNS_AHEAD_OF_REFRESH = 380;
    private static final int MOST_IMAGES = 10;
    private static final int NAMES = 8;
    private static final int USERS = 5;
    private static final int HOST = 0;
    private static final int FIRST_NUMBER = 100;
    private static final int NUMBER_ZERO = 600;
    private static final int LAST_NUMBER = 1100;
    private static final int NO_NAME = -1;
    private static final int NO_RUN = 0;
    private static final int STAMP_IN_ORDER = 1;
    private static final long NO_INT = 1L << 40;

    private final ArrayList<Cell> cells = new ArrayList<Cell>();
    private final ArrayList<Cell> order = new ArrayList<Cell>();
    private final ArrayList<Run> allRuns = new ArrayList<Run>();
    private final ArrayList<Run> log = new ArrayList<Run>();
    private final ArrayList<Session> images = new ArrayList<Session>();
    private final Session now = new Session();
    private final Names inOrder = new Names();
    private final Attempt attempt = new Attempt();

    public CellNotebook() {
    }

    // ---- cells and programs

    public int addCell() throws IllegalStateException {
        int number = cells.size();
        if (number >= MOST_CELLS) {
            throw new IllegalStateException("there are 16 cells");
        }
        Cell added = new Cell(number);
        cells.add(added);
        order.add(added);
        return number;
    }

    public int write(int user, int cell, int name, int operation, int left, int right)
            throws IndexOutOfBoundsException, IllegalArgumentException, IllegalStateException {
        requireUser(user);
        Cell written = requireCell(cell);
        requireName(name);
        if (operation < PLUS || operation > OVER) {
            throw new IllegalArgumentException("no such operation");
        }
        if (!isOperand(left) || !isOperand(right)) {
            throw new IllegalArgumentException("no operand");
        }
        requireRight(written, user, EDIT);
        if (written.program.size() >= MOST_STATEMENTS) {
            throw new IllegalStateException("the program has 6 statements");
        }
        written.program.add(new Statement(name, operation, left, right));
        written.runsAtChange = allRuns.size();
        return written.program.size();
    }

    public int clear(int user, int cell) throws IndexOutOfBoundsException, IllegalStateException {
        requireUser(user);
        Cell cleared = requireCell(cell);
        requireRight(cleared, user, EDIT);
        int statements = cleared.program.size();
        if (statements > 0) {
            cleared.program.clear();
            cleared.runsAtChange = allRuns.size();
        }
        return statements;
    }

    public int move(int cell, int place) throws IndexOutOfBoundsException {
        Cell moved = requireCell(cell);
        requirePlace(place);
        int before = placeOf(moved);
        order.remove(before);
        order.add(place, moved);
        return before;
    }

    public int cellCount() {
        return cells.size();
    }

    public int cellAt(int place) throws IndexOutOfBoundsException {
        requirePlace(place);
        return order.get(place).number;
    }

    public int source(int cell) throws IndexOutOfBoundsException {
        return requireCell(cell).writtenOut().length();
    }

    public char sourceChar(int cell, int place) throws IndexOutOfBoundsException {
        StringBuilder text = requireCell(cell).writtenOut();
        if (place < 0 || place >= text.length()) {
            throw new IndexOutOfBoundsException("no such place in the text");
        }
        return text.charAt(place);
    }

    // ---- rights

    public int grant(int user, int cell, int right) throws IndexOutOfBoundsException, IllegalArgumentException {
        requireUser(user);
        Cell granted = requireCell(cell);
        if (user == HOST) {
            throw new IndexOutOfBoundsException("the host is no guest");
        }
        if (right < NOTHING || right > EDIT) {
            throw new IllegalArgumentException("no such right");
        }
        int before = granted.rightOf(user);
        granted.giveRight(user, right);
        return before;
    }

    public int right(int user, int cell) throws IndexOutOfBoundsException {
        requireUser(user);
        return requireCell(cell).rightOf(user);
    }

    // ---- runs

    public boolean run(int user, int cell) throws IndexOutOfBoundsException, IllegalStateException {
        requireUser(user);
        Cell target = requireCell(cell);
        requireRight(target, user, RUN);
        if (allRuns.size() >= MOST_RUNS) {
            throw new IllegalStateException("there were 400 runs");
        }
        return makeRun(user, target);
    }

    public int refresh(int user) throws IndexOutOfBoundsException, IllegalStateException {
        requireUser(user);
        if (allRuns.size() > MOST_RUNS_AHEAD_OF_REFRESH) {
            throw new IllegalStateException("there were more than 380 runs");
        }
        int made = 0;
        for (int place = 0; place < order.size(); place++) {
            Cell cell = order.get(place);
            if (cell.allows(user, RUN) && needsRun(cell)) {
                makeRun(user, cell);
                made++;
            }
        }
        return made;
    }

    public boolean isSet(int name) throws IndexOutOfBoundsException {
        requireName(name);
        return now.names.hold(name);
    }

    public int value(int name) throws IndexOutOfBoundsException, IllegalStateException {
        requireName(name);
        return requireValue(now.names, name);
    }

    public int stamp(int name) throws IndexOutOfBoundsException {
        requireName(name);
        return now.names.stampOf(name);
    }

    public int lastRun(int cell) throws IndexOutOfBoundsException {
        return now.lastRunOf(requireCell(cell).number);
    }

    public boolean hasResult(int cell) throws IndexOutOfBoundsException {
        Run last = lastRunMadeOf(requireCell(cell));
        return last != null && last.hasOutcome;
    }

    public int result(int user, int cell) throws IndexOutOfBoundsException, IllegalStateException {
        requireUser(user);
        Cell target = requireCell(cell);
        requireRight(target, user, SEE);
        Run last = lastRunMadeOf(target);
        if (last == null || !last.hasOutcome) {
            throw new IllegalStateException("there is no result");
        }
        return last.outcome;
    }

    public int seen(int cell) throws IndexOutOfBoundsException {
        Run last = lastRunMadeOf(requireCell(cell));
        return last == null ? 0 : last.namesSeen;
    }

    public int timesSeen(int name) throws IndexOutOfBoundsException {
        requireName(name);
        int times = 0;
        for (int i = 0; i < allRuns.size(); i++) {
            if (allRuns.get(i).sawName(name)) {
                times++;
            }
        }
        return times;
    }

    // ---- stale cells

    public int why(int cell) throws IndexOutOfBoundsException {
        Run last = lastRunMadeOf(requireCell(cell));
        return last == null ? 0 : reasons(last, NO_NAME, staleCells(NO_NAME));
    }

    public int stale() {
        return staleCells(NO_NAME);
    }

    public int wouldBeStale(int name) throws IndexOutOfBoundsException {
        requireName(name);
        return staleCells(name) & ~staleCells(NO_NAME);
    }

    // ---- sessions

    public int keep() throws IllegalStateException {
        int number = images.size();
        if (number >= MOST_IMAGES) {
            throw new IllegalStateException("there are 10 images");
        }
        Session image = new Session();
        image.becomeLike(now);
        images.add(image);
        return number;
    }

    public int restore(int image) throws IndexOutOfBoundsException {
        if (image < 0 || image >= images.size()) {
            throw new IndexOutOfBoundsException("no such image");
        }
        now.becomeLike(images.get(image));
        return now.names.howManySet();
    }

    public int end() {
        int before = now.names.howManySet();
        now.names.unsetAll();
        return before;
    }

    // ---- all cells in their order

    public boolean isSetInOrder(int name) throws IndexOutOfBoundsException {
        requireName(name);
        runAllInOrder();
        return inOrder.hold(name);
    }

    public int valueInOrder(int name) throws IndexOutOfBoundsException, IllegalStateException {
        requireName(name);
        runAllInOrder();
        return requireValue(inOrder, name);
    }

    public int unlikeInOrder() {
        runAllInOrder();
        int unlike = 0;
        for (int name = 0; name < NAMES; name++) {
            if (now.names.hold(name) != inOrder.hold(name) || now.names.valueOf(name) != inOrder.valueOf(name)) {
                unlike |= 1 << name;
            }
        }
        return unlike;
    }

    // ---- the log

    public int runs() {
        return allRuns.size();
    }

    public int logged() {
        return log.size();
    }

    public int logAt(int place) throws IndexOutOfBoundsException {
        if (place < 0 || place >= log.size()) {
            throw new IndexOutOfBoundsException("no such run in the log");
        }
        Run run = log.get(place);
        return 1000 * run.number + 10 * run.cell.number + run.user;
    }

    public int forget(int user) throws IndexOutOfBoundsException {
        requireUser(user);
        int taken = 0;
        for (int place = log.size() - 1; place >= 0; place--) {
            Run run = log.get(place);
            if (run.user == user && !isLastRun(run)) {
                log.remove(place);
                taken++;
            }
        }
        return taken;
    }

    // ---- what the calls share

    private static void requireUser(int user) {
        if (user < 0 || user >= USERS) {
            throw new IndexOutOfBoundsException("no such user");
        }
    }

    private static void requireName(int name) {
        if (!isName(name)) {
            throw new IndexOutOfBoundsException("no such name");
        }
    }

    private Cell requireCell(int cell) {
        if (cell < 0 || cell >= cells.size()) {
            throw new IndexOutOfBoundsException("no such cell");
        }
        return cells.get(cell);
    }

    private void requirePlace(int place) {
        if (place < 0 || place >= order.size()) {
            throw new IndexOutOfBoundsException("no such place in the order");
        }
    }

    private static void requireRight(Cell cell, int user, int right) {
        if (!cell.allows(user, right)) {
            throw new IllegalStateException("the user may not do this");
        }
    }

    private static int requireValue(Names names, int name) {
        if (!names.hold(name)) {
            throw new IllegalStateException("the name is unset");
        }
        return names.valueOf(name);
    }

    private static boolean isName(int number) {
        return number >= 0 && number < NAMES;
    }

    private static boolean isOperand(int number) {
        return isName(number) || number >= FIRST_NUMBER && number <= LAST_NUMBER;
    }

    private int placeOf(Cell cell) {
        int place = 0;
        while (place < order.size() - 1 && order.get(place) != cell) {
            place++;
        }
        return place;
    }

    private boolean makeRun(int user, Cell cell) {
        int number = allRuns.size() + 1;
        attempt.perform(cell.program, now.names, number);
        Run run = new Run(number, cell, user, attempt);
        allRuns.add(run);
        log.add(run);
        now.setLastRun(cell.number, number);
        return !attempt.failed;
    }

    private void runAllInOrder() {
        inOrder.unsetAll();
        for (int place = 0; place < order.size(); place++) {
            attempt.perform(order.get(place).program, inOrder, STAMP_IN_ORDER);
        }
    }

    private boolean needsRun(Cell cell) {
        return now.lastRunOf(cell.number) == NO_RUN || (staleCells(NO_NAME) & 1 << cell.number) != 0;
    }

    private Run runNumbered(int number) {
        return number >= 1 && number <= allRuns.size() ? allRuns.get(number - 1) : null;
    }

    private Run lastRunMadeOf(Cell cell) {
        return runNumbered(now.lastRunOf(cell.number));
    }

    private boolean isLastRun(Run run) {
        return now.lastRunOf(run.cell.number) == run.number;
    }

    /**
     * The cells that would be stale if a name had a new stamp (NO_NAME: those that are stale).
     * A run has seen the stamps of earlier runs alone, so going by number meets what it rests on ahead of it.
     */
    private int staleCells(int renewed) {
        int stale = 0;
        for (int i = 0; i < allRuns.size(); i++) {
            Run run = allRuns.get(i);
            if (isLastRun(run) && reasons(run, renewed, stale) != 0) {
                stale |= 1 << run.cell.number;
            }
        }
        return stale;
    }

    private int reasons(Run last, int renewed, int stale) {
        int reasons = last.cell.runsAtChange >= last.number ? EDITED : 0;
        for (int name = 0; name < NAMES; name++) {
            if (last.sawName(name)) {
                if (name == renewed || now.names.stampOf(name) != last.stampSeen(name)) {
                    reasons |= CHANGED;
                }
                if (restsOnOther(last, name, stale)) {
                    reasons |= RESTING;
                }
            }
        }
        return reasons;
    }

    private boolean restsOnOther(Run last, int name, int stale) {
        Run source = runNumbered(last.stampSeen(name));
        if (source == null || source.cell == last.cell) {
            return false;
        }
        return !isLastRun(source) || (stale & 1 << source.cell.number) != 0;
    }

    /** Sets a name to what comes of an operation with two operands. */
    private static final class Statement {
        final int name;
        final int operation;
        final int left;
        final int right;

        Statement(int name, int operation, int left, int right) {
            this.name = name;
            this.operation = operation;
            this.left = left;
            this.right = right;
        }

        /** What comes of the operation; NO_INT, or another number that is no int, if that is no int. */
        long outcome(long leftValue, long rightValue) {
            switch (operation) {
                case PLUS:
                    return leftValue + rightValue;
                case MINUS:
                    return leftValue - rightValue;
                case TIMES:
                    return leftValue * rightValue;
                default:
                    return rightValue == 0 ? NO_INT : leftValue / rightValue;
            }
        }

        void writeTo(StringBuilder text) {
            text.append(letter(name));
            text.append('=');
            writeOperand(left, text);
            text.append(sign());
            writeOperand(right, text);
            text.append('\n');
        }

        private char sign() {
            switch (operation) {
                case PLUS:
                    return '+';
                case MINUS:
                    return '-';
                case TIMES:
                    return '*';
                default:
                    return '/';
            }
        }

        private static void writeOperand(int operand, StringBuilder text) {
            if (isName(operand)) {
                text.append(letter(operand));
            } else {
                text.append(operand - NUMBER_ZERO);
            }
        }

        private static char letter(int name) {
            return (char) ('a' + name);
        }
    }

    /** A program, and what each user may do with it. */
    private static final class Cell {
        final int number;
        final ArrayList<Statement> program = new ArrayList<Statement>();
        // How many runs there were at the last change: the change is behind just those runs, restored or not.
        int runsAtChange = 0;
        private final int[] rights = new int[USERS];

        Cell(int number) {
            this.number = number;
            rights[HOST] = EDIT;
        }

        int rightOf(int user) {
            return user >= 0 && user < rights.length ? rights[user] : NOTHING;
        }

        void giveRight(int user, int right) {
            if (user >= 0 && user < rights.length) {
                rights[user] = right;
            }
        }

        boolean allows(int user, int right) {
            return rightOf(user) >= right;
        }

        StringBuilder writtenOut() {
            StringBuilder text = new StringBuilder();
            for (int i = 0; i < program.size(); i++) {
                program.get(i).writeTo(text);
            }
            return text;
        }
    }

    /** The values and stamps of all names; a name is unset if its stamp is 0, and has the value 0 then. */
    private static final class Names {
        private final int[] values = new int[NAMES];
        private final int[] stamps = new int[NAMES];

        boolean hold(int name) {
            return isName(name) && stamps[name] != NO_RUN;
        }

        int valueOf(int name) {
            return isName(name) ? values[name] : 0;
        }

        int stampOf(int name) {
            return isName(name) ? stamps[name] : NO_RUN;
        }

        void assign(int name, int value, int stamp) {
            if (isName(name)) {
                values[name] = value;
                stamps[name] = stamp;
            }
        }

        int howManySet() {
            int set = 0;
            for (int name = 0; name < NAMES; name++) {
                if (hold(name)) {
                    set++;
                }
            }
            return set;
        }

        void unsetAll() {
            for (int name = 0; name < NAMES; name++) {
                assign(name, 0, NO_RUN);
            }
        }

        void becomeLike(Names other) {
            for (int name = 0; name < NAMES; name++) {
                assign(name, other.valueOf(name), other.stampOf(name));
            }
        }
    }

    /** What an image keeps: all names, and the last runs of all cells. */
    private static final class Session {
        final Names names = new Names();
        private final int[] lastRuns = new int[MOST_CELLS];

        int lastRunOf(int cell) {
            return cell >= 0 && cell < lastRuns.length ? lastRuns[cell] : NO_RUN;
        }

        void setLastRun(int cell, int number) {
            if (cell >= 0 && cell < lastRuns.length) {
                lastRuns[cell] = number;
            }
        }

        void becomeLike(Session other) {
            names.becomeLike(other.names);
            for (int cell = 0; cell < MOST_CELLS; cell++) {
                setLastRun(cell, other.lastRunOf(cell));
            }
        }
    }

    /** One doing of a program, used again for each: it works on its own names, which count if it does not fail. */
    private static final class Attempt {
        boolean failed;
        boolean hasOutcome;
        int outcome;
        int namesSeen;
        private int namesSet;
        private final Names names = new Names();
        private final int[] stampsSeen = new int[NAMES];

        void perform(ArrayList<Statement> program, Names target, int stamp) {
            begin(target);
            for (int i = 0; i < program.size() && !failed; i++) {
                performStatement(program.get(i), stamp);
            }
            if (failed) {
                hasOutcome = false;
            } else {
                target.becomeLike(names);
            }
        }

        int stampSeen(int name) {
            return isName(name) ? stampsSeen[name] : NO_RUN;
        }

        private void begin(Names target) {
            failed = false;
            hasOutcome = false;
            outcome = 0;
            namesSeen = 0;
            namesSet = 0;
            names.becomeLike(target);
            for (int name = 0; name < NAMES; name++) {
                stampsSeen[name] = NO_RUN;
            }
        }

        private void performStatement(Statement statement, int stamp) {
            // A left operand that is unset ends the run ahead of the right one, which is then not seen.
            if (!read(statement.left) || !read(statement.right)) {
                failed = true;
                return;
            }
            long exact = statement.outcome(operandValue(statement.left), operandValue(statement.right));
            if ((int) exact != exact) {
                failed = true;
                return;
            }
            outcome = (int) exact;
            hasOutcome = true;
            names.assign(statement.name, outcome, stamp);
            namesSet |= 1 << statement.name;
        }

        /** Sees an operand; tells whether it has a value. */
        private boolean read(int operand) {
            if (!isName(operand)) {
                return true;
            }
            if ((namesSet & 1 << operand) == 0) {
                namesSeen |= 1 << operand;
                stampsSeen[operand] = names.stampOf(operand);
            }
            return names.hold(operand);
        }

        private int operandValue(int operand) {
            return isName(operand) ? names.valueOf(operand) : operand - NUMBER_ZERO;
        }
    }

    /** A run that was made, with what it has seen. */
    private static final class Run {
        final int number;
        final Cell cell;
        final int user;
        final boolean hasOutcome;
        final int outcome;
        final int namesSeen;
        private final int[] stampsSeen = new int[NAMES];

        Run(int number, Cell cell, int user, Attempt made) {
            this.number = number;
            this.cell = cell;
            this.user = user;
            hasOutcome = made.hasOutcome;
            outcome = made.outcome;
            namesSeen = made.namesSeen;
            for (int name = 0; name < NAMES; name++) {
                stampsSeen[name] = made.stampSeen(name);
            }
        }

        boolean sawName(int name) {
            return isName(name) && (namesSeen & 1 << name) != 0;
        }

        int stampSeen(int name) {
            return isName(name) ? stampsSeen[name] : NO_RUN;
        }
    }
}
