import java.math.BigInteger;
import java.util.ArrayList;
import java.util.Collections;
import java.util.HashMap;
import java.util.List;
import java.util.Map;
import java.util.TreeMap;
import java.util.TreeSet;

/**
 * The document again, in its plainest words and with the whole Java library: RandomRunsTest holds CellNotebook
 * against it. It shares no code with CellNotebook.
 */
final class PlainNotebook {
    private record Value(int value, int stamp) { }

    private record Past(int number, int cell, int user, int time, Map<Integer, Integer> seen, Integer result,
            boolean fails) { }

    private record Image(Map<Integer, Value> names, Map<Integer, Past> lastRuns) { }

    private int time = 0;
    private final List<List<int[]>> programs = new ArrayList<>();
    private final List<List<Integer>> changes = new ArrayList<>();
    private final List<Integer> order = new ArrayList<>();
    private final Map<List<Integer>, Integer> rights = new HashMap<>();
    private Map<Integer, Value> names = new TreeMap<>();
    private Map<Integer, Past> lastRuns = new TreeMap<>();
    private final List<Past> past = new ArrayList<>();
    private final List<Past> inLog = new ArrayList<>();
    private final List<Image> images = new ArrayList<>();

    int addCell() {
        state(programs.size() < 16);
        programs.add(new ArrayList<>());
        changes.add(new ArrayList<>());
        order.add(programs.size() - 1);
        return programs.size() - 1;
    }

    int write(int user, int cell, int name, int operation, int left, int right) {
        user(user);
        cell(cell);
        name(name);
        argument(0 <= operation && operation <= 3 && operand(left) && operand(right));
        state(may(user, cell, 3) && programs.get(cell).size() < 6);
        programs.get(cell).add(new int[] {name, operation, left, right});
        changes.get(cell).add(++time);
        return programs.get(cell).size();
    }

    int clear(int user, int cell) {
        user(user);
        cell(cell);
        state(may(user, cell, 3));
        int size = programs.get(cell).size();
        if (size > 0) {
            changes.get(cell).add(++time);
        }
        programs.get(cell).clear();
        return size;
    }

    int move(int cell, int place) {
        cell(cell);
        bounds(0 <= place && place < order.size());
        int before = order.indexOf(cell);
        order.remove((Integer) cell);
        order.add(place, cell);
        return before;
    }

    int cellCount() {
        return programs.size();
    }

    int cellAt(int place) {
        bounds(0 <= place && place < order.size());
        return order.get(place);
    }

    int source(int cell) {
        cell(cell);
        return text(cell).length();
    }

    char sourceChar(int cell, int place) {
        cell(cell);
        bounds(0 <= place && place < text(cell).length());
        return text(cell).charAt(place);
    }

    int grant(int user, int cell, int right) {
        user(user);
        cell(cell);
        bounds(user != 0);
        argument(0 <= right && right <= 3);
        Integer before = rights.put(List.of(user, cell), right);
        return before == null ? 0 : before;
    }

    int right(int user, int cell) {
        user(user);
        cell(cell);
        return user == 0 ? 3 : rights.getOrDefault(List.of(user, cell), 0);
    }

    boolean run(int user, int cell) {
        user(user);
        cell(cell);
        state(may(user, cell, 2) && past.size() < 400);
        Past made = made(user, cell, past.size() + 1, names);
        past.add(made);
        inLog.add(made);
        lastRuns.put(cell, made);
        return !made.fails();
    }

    int refresh(int user) {
        user(user);
        state(past.size() <= 380);
        int before = past.size();
        for (int cell : order) {
            if (may(user, cell, 2) && (!lastRuns.containsKey(cell) || reasons(cell, -1) != 0)) {
                run(user, cell);
            }
        }
        return past.size() - before;
    }

    boolean isSet(int name) {
        name(name);
        return names.containsKey(name);
    }

    int value(int name) {
        name(name);
        state(names.containsKey(name));
        return names.get(name).value();
    }

    int stamp(int name) {
        name(name);
        return stampIn(names, name);
    }

    int lastRun(int cell) {
        cell(cell);
        return lastRuns.containsKey(cell) ? lastRuns.get(cell).number() : 0;
    }

    boolean hasResult(int cell) {
        cell(cell);
        return lastRuns.containsKey(cell) && lastRuns.get(cell).result() != null;
    }

    int result(int user, int cell) {
        user(user);
        cell(cell);
        state(may(user, cell, 1) && hasResult(cell));
        return lastRuns.get(cell).result();
    }

    int seen(int cell) {
        cell(cell);
        return lastRuns.containsKey(cell) ? set(lastRuns.get(cell).seen().keySet()) : 0;
    }

    int timesSeen(int name) {
        name(name);
        return (int) past.stream().filter(run -> run.seen().containsKey(name)).count();
    }

    int why(int cell) {
        cell(cell);
        return reasons(cell, -1);
    }

    int stale() {
        return staleIf(-1);
    }

    int wouldBeStale(int name) {
        name(name);
        return staleIf(name) - (staleIf(name) & staleIf(-1));
    }

    int keep() {
        state(images.size() < 10);
        images.add(new Image(new TreeMap<>(names), new TreeMap<>(lastRuns)));
        return images.size() - 1;
    }

    int restore(int image) {
        bounds(0 <= image && image < images.size());
        names = new TreeMap<>(images.get(image).names());
        lastRuns = new TreeMap<>(images.get(image).lastRuns());
        return names.size();
    }

    int end() {
        int before = names.size();
        names.clear();
        return before;
    }

    boolean isSetInOrder(int name) {
        name(name);
        return inOrder().containsKey(name);
    }

    int valueInOrder(int name) {
        name(name);
        state(inOrder().containsKey(name));
        return inOrder().get(name).value();
    }

    int unlikeInOrder() {
        Map<Integer, Value> then = inOrder();
        TreeSet<Integer> unlike = new TreeSet<>();
        for (int name = 0; name < 8; name++) {
            Integer here = names.containsKey(name) ? names.get(name).value() : null;
            Integer there = then.containsKey(name) ? then.get(name).value() : null;
            if (here == null ? there != null : !here.equals(there)) {
                unlike.add(name);
            }
        }
        return set(unlike);
    }

    int runs() {
        return past.size();
    }

    int logged() {
        return inLog.size();
    }

    int logAt(int place) {
        bounds(0 <= place && place < inLog.size());
        Past run = inLog.get(place);
        return 1000 * run.number() + 10 * run.cell() + run.user();
    }

    int forget(int user) {
        user(user);
        int before = inLog.size();
        inLog.removeIf(run -> run.user() == user && !lastRuns.containsValue(run));
        return before - inLog.size();
    }

    private Past made(int user, int cell, int number, Map<Integer, Value> changed) {
        Map<Integer, Value> own = new TreeMap<>(changed);
        Map<Integer, Integer> seen = new TreeMap<>();
        TreeSet<Integer> set = new TreeSet<>();
        Integer result = null;
        for (int[] statement : programs.get(cell)) {
            Integer left = read(statement[2], own, set, seen);
            Integer right = left == null ? null : read(statement[3], own, set, seen);
            result = right == null ? null : outcome(statement[1], left, right);
            if (result == null) {
                return new Past(number, cell, user, ++time, seen, null, true);
            }
            own.put(statement[0], new Value(result, number));
            set.add(statement[0]);
        }
        changed.putAll(own);
        return new Past(number, cell, user, ++time, seen, result, false);
    }

    private static Integer read(int operand, Map<Integer, Value> own, TreeSet<Integer> set,
            Map<Integer, Integer> seen) {
        if (operand > 7) {
            return operand - 600;
        }
        if (!set.contains(operand)) {
            seen.put(operand, stampIn(own, operand));
        }
        return own.containsKey(operand) ? own.get(operand).value() : null;
    }

    private static Integer outcome(int operation, int left, int right) {
        BigInteger first = BigInteger.valueOf(left);
        BigInteger second = BigInteger.valueOf(right);
        if (operation == 3 && right == 0) {
            return null;
        }
        BigInteger exact = operation == 0 ? first.add(second) : operation == 1 ? first.subtract(second)
                : operation == 2 ? first.multiply(second) : first.divide(second);
        return exact.bitLength() < 32 ? exact.intValue() : null;
    }

    private int staleIf(int renewed) {
        TreeSet<Integer> stale = new TreeSet<>();
        for (int cell = 0; cell < programs.size(); cell++) {
            if (reasons(cell, renewed) != 0) {
                stale.add(cell);
            }
        }
        return set(stale);
    }

    private int reasons(int cell, int renewed) {
        Past last = lastRuns.get(cell);
        if (last == null) {
            return 0;
        }
        boolean changed = false;
        boolean resting = false;
        for (Map.Entry<Integer, Integer> one : last.seen().entrySet()) {
            changed |= one.getKey() == renewed || stampIn(names, one.getKey()) != one.getValue();
            if (one.getValue() > 0) {
                Past source = past.get(one.getValue() - 1);
                resting |= source.cell() != cell
                        && (lastRuns.get(source.cell()) != source || reasons(source.cell(), renewed) != 0);
            }
        }
        List<Integer> written = changes.get(cell);
        boolean edited = !written.isEmpty() && Collections.max(written) > last.time();
        return (edited ? 1 : 0) + (changed ? 2 : 0) + (resting ? 4 : 0);
    }

    private Map<Integer, Value> inOrder() {
        Map<Integer, Value> then = new TreeMap<>();
        for (int cell : order) {
            made(0, cell, 1000 + cell, then);
        }
        return then;
    }

    private String text(int cell) {
        StringBuilder text = new StringBuilder();
        for (int[] statement : programs.get(cell)) {
            text.append(shown(statement[0])).append("=").append(shown(statement[2]));
            text.append("+-*/".charAt(statement[1])).append(shown(statement[3])).append("\n");
        }
        return text.toString();
    }

    private static String shown(int operand) {
        return operand < 8 ? "abcdefgh".substring(operand, operand + 1) : Integer.toString(operand - 600);
    }

    private boolean may(int user, int cell, int right) {
        return right(user, cell) >= right;
    }

    private static int stampIn(Map<Integer, Value> names, int name) {
        return names.containsKey(name) ? names.get(name).stamp() : 0;
    }

    private static int set(Iterable<Integer> members) {
        int set = 0;
        for (int member : members) {
            set += 1 << member;
        }
        return set;
    }

    private static boolean operand(int number) {
        return 0 <= number && number <= 7 || 100 <= number && number <= 1100;
    }

    private static void user(int user) {
        bounds(0 <= user && user <= 4);
    }

    private void cell(int cell) {
        bounds(0 <= cell && cell < programs.size());
    }

    private static void name(int name) {
        bounds(0 <= name && name <= 7);
    }

    private static void bounds(boolean holds) {
        if (!holds) {
            throw new IndexOutOfBoundsException();
        }
    }

    private static void argument(boolean holds) {
        if (!holds) {
            throw new IllegalArgumentException();
        }
    }

    private static void state(boolean holds) {
        if (!holds) {
            throw new IllegalStateException();
        }
    }
}
