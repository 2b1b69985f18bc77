import java.io.IOException;
import java.nio.file.Files;
import java.nio.file.Path;
import java.util.ArrayList;
import java.util.List;

/** The example of README.md: each of its lines, made here too, answers what stands behind it there. */
final class ReadmeTest {
    private static final List<String> shown = new ArrayList<>();

    private ReadmeTest() {
    }

    public static void main(String[] args) throws IOException {
        List<String> lines = exampleLines();
        Checks.run(() -> makeExample());
        Checks.same("how many lines the example has", lines.size(), shown.size());
        for (int i = 0; i < Math.min(lines.size(), shown.size()); i++) {
            Checks.same("line " + (i + 1) + " of the example, made here,", shown.get(i), lines.get(i));
        }
        Checks.end();
    }

    private static void makeExample() {
        CellNotebook notebook = new CellNotebook();

        int first = notebook.addCell();
        answers("int first = notebook.addCell()", first);
        int second = notebook.addCell();
        answers("int second = notebook.addCell()", second);
        answers("notebook.write(0, first, 0, CellNotebook.PLUS, 603, 604)",
                notebook.write(0, first, 0, CellNotebook.PLUS, 603, 604));
        answers("notebook.write(0, second, 1, CellNotebook.TIMES, 0, 0)",
                notebook.write(0, second, 1, CellNotebook.TIMES, 0, 0));
        answers("notebook.refresh(0)", notebook.refresh(0));
        answers("notebook.result(0, second)", notebook.result(0, second));

        answers("notebook.clear(0, first)", notebook.clear(0, first));
        answers("notebook.write(0, first, 0, CellNotebook.MINUS, 600, 605)",
                notebook.write(0, first, 0, CellNotebook.MINUS, 600, 605));
        answers("notebook.why(first)", notebook.why(first));
        answers("notebook.why(second)", notebook.why(second));
        answers("notebook.stale()", notebook.stale());
        answers("notebook.unlikeInOrder()", notebook.unlikeInOrder());

        answers("notebook.grant(2, first, CellNotebook.RUN)", notebook.grant(2, first, CellNotebook.RUN));
        answers("notebook.run(2, first)", notebook.run(2, first));
        answers("notebook.why(second)", notebook.why(second));
        answers("notebook.result(0, second)", notebook.result(0, second));

        answers("notebook.keep()", notebook.keep());
        answers("notebook.end()", notebook.end());
        answers("notebook.run(0, second)", notebook.run(0, second));
        answers("notebook.hasResult(second)", notebook.hasResult(second));
        answers("notebook.restore(0)", notebook.restore(0));
        answers("notebook.result(0, second)", notebook.result(0, second));

        answers("notebook.logAt(2)", notebook.logAt(2));
        answers("notebook.forget(0)", notebook.forget(0));
        answers("notebook.logged()", notebook.logged());
        answers("notebook.runs()", notebook.runs());
    }

    private static void answers(String call, Object answer) {
        shown.add(call + "; // " + answer);
    }

    /** The lines that tell an answer, without what is said behind the answer. */
    private static List<String> exampleLines() throws IOException {
        List<String> lines = new ArrayList<>();
        for (String line : exampleText().split("\n")) {
            int behind = line.indexOf("; ");
            if (behind >= 0 && !line.startsWith("//")) {
                String answer = line.substring(line.indexOf("// ") + 3).split("[ ,:]")[0];
                lines.add(line.substring(0, behind) + "; // " + answer);
            }
        }
        return lines;
    }

    private static String exampleText() throws IOException {
        String[] parts = Files.readString(Path.of("README.md")).split("```java\n|```\n");
        return parts.length > 1 ? parts[1] : "";
    }
}
