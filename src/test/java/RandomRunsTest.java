import java.lang.reflect.InvocationTargetException;
import java.lang.reflect.Method;
import java.lang.reflect.Modifier;
import java.util.ArrayList;
import java.util.Arrays;
import java.util.Comparator;
import java.util.List;
import java.util.Random;

/** Long runs of calls, drawn from fixed seeds, answered as PlainNotebook answers them. */
final class RandomRunsTest {
    private static final int RUNS = 1500;
    private static final int CALLS = 512;
    private static final String OFTEN = "write run run refresh clear keep restore restore why stale wouldBeStale";

    private final Random random;
    private final List<Method> methods = new ArrayList<>();
    private final CellNotebook notebook = new CellNotebook();
    private final PlainNotebook plain = new PlainNotebook();
    private final int names;
    private int cells = 0;

    private RandomRunsTest(int seed) {
        random = new Random(seed);
        names = 2 + random.nextInt(7);
        for (Method method : CellNotebook.class.getDeclaredMethods()) {
            if (Modifier.isPublic(method.getModifiers())) {
                methods.add(method);
            }
        }
        methods.sort(Comparator.comparing(Method::getName));
        for (String name : OFTEN.split(" ")) {
            methods.add(methods.stream().filter(method -> method.getName().equals(name)).findFirst().get());
        }
    }

    public static void main(String[] args) throws ReflectiveOperationException {
        for (int seed = 0; seed < RUNS; seed++) {
            new RandomRunsTest(seed).makeCalls(seed);
        }
        Checks.end();
    }

    private void makeCalls(int seed) throws ReflectiveOperationException {
        int begun = 2 + random.nextInt(15);
        boolean longRuns = random.nextInt(4) == 0;
        for (int call = 0; call < CALLS; call++) {
            Method method = methods.get(random.nextInt(methods.size()));
            if (call < begun) {
                method = CellNotebook.class.getMethod("addCell");
            } else if (longRuns && random.nextInt(10) < 8) {
                method = random.nextInt(8) == 0 ? CellNotebook.class.getMethod("refresh", int.class)
                        : CellNotebook.class.getMethod("run", int.class, int.class);
            }
            if (!answersAlike(seed, call, method)) {
                return;
            }
        }
    }

    private boolean answersAlike(int seed, int call, Method method) throws ReflectiveOperationException {
        Object[] arguments = arguments(method.getName());
        Method plainMethod = PlainNotebook.class.getDeclaredMethod(method.getName(), method.getParameterTypes());
        String got = answer(method, notebook, arguments);
        String due = answer(plainMethod, plain, arguments);
        cells = notebook.cellCount();
        if (got.equals(due)) {
            return true;
        }
        Checks.fail("seed " + seed + ", call " + call + ": " + method.getName() + Arrays.toString(arguments)
                + " answered " + got + ", due is " + due);
        return false;
    }

    private static String answer(Method method, Object target, Object[] arguments)
            throws IllegalAccessException {
        try {
            return String.valueOf(method.invoke(target, arguments));
        } catch (InvocationTargetException e) {
            return Checks.thrownBy(e.getCause());
        }
    }

    private Object[] arguments(String method) {
        switch (method) {
            case "write":
                return row(user(), cell(), name(), drawn(4), operand(), operand());
            case "move":
                return row(cell(), drawn(cells));
            case "cellAt":
                return row(drawn(cells));
            case "sourceChar":
                return row(cell(), drawn(24));
            case "grant":
                return row(user(), cell(), drawn(4));
            case "clear":
            case "right":
            case "run":
            case "result":
                return row(user(), cell());
            case "refresh":
            case "forget":
                return row(user());
            case "isSet":
            case "value":
            case "stamp":
            case "timesSeen":
            case "wouldBeStale":
            case "isSetInOrder":
            case "valueInOrder":
                return row(name());
            case "source":
            case "lastRun":
            case "hasResult":
            case "seen":
            case "why":
                return row(cell());
            case "restore":
                return row(drawn(4));
            case "logAt":
                return row(drawn(notebook.logged()));
            default:
                return row();
        }
    }

    private static Object[] row(Integer... arguments) {
        return arguments;
    }

    /** Below the bound, but now and then any number about it. */
    private int drawn(int bound) {
        if (random.nextInt(60) == 0) {
            return random.nextBoolean() ? -1 : bound + random.nextInt(2);
        }
        if (random.nextInt(500) == 0) {
            return random.nextInt();
        }
        return random.nextInt(Math.max(1, bound));
    }

    private int user() {
        return random.nextInt(4) == 0 ? drawn(5) : 0;
    }

    private int cell() {
        return drawn(cells);
    }

    private int name() {
        return random.nextInt(10) == 0 ? drawn(8) : random.nextInt(names);
    }

    private int operand() {
        int kind = random.nextInt(10);
        if (kind < 5) {
            return random.nextInt(names);
        }
        if (kind < 8) {
            return 598 + random.nextInt(5);
        }
        int[] edges = {-1, 8, 99, 100, 1100, 1101, 0, 7};
        return kind == 8 ? 100 + random.nextInt(1001) : edges[random.nextInt(edges.length)];
    }
}
