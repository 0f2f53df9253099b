import java.io.IOException;
import java.nio.file.Files;
import java.nio.file.Path;
import java.util.ArrayList;
import java.util.List;

/** The example of README.md answers what it says there. */
public final class ReadmeTest {
    public static void main(String[] args) throws IOException {
        answersAsWritten();
        isTheExample();
        Check.end();
    }

    private static void answersAsWritten() {
        IslandSolver solver = new IslandSolver();
        int floor = solver.body(0, 0, 0, 0);
        int box = solver.body(1, 1, 1, 1);
        solver.set(box, 3, -2, 0, 0, 0, 0);

        solver.vector(0, 0, 1, 0);
        int press = solver.row(box, floor, 0, 0, 0, 1000, 1);
        solver.vector(0, 1, 0, 0);
        int rub = solver.rub(box, floor, 0, press, 0.5f, 2);

        solver.gain(box, box, 0, -0.25f, 0);
        int awake = solver.step(1);
        float pressed = solver.ofRow(press, 0);
        float rubbed = solver.ofRow(rub, 0);
        float slide = solver.of(box, 0);

        int gone = solver.clear();
        solver.vector(0, 0, 1, 0);
        int again = solver.row(box, floor, 0, 0, 0, 1000, 1);
        Check.same("awake", awake, 1);
        Check.same("pressed", pressed, 2.25f);
        Check.same("rubbed", rubbed, -1.125f);
        Check.same("slide", slide, 1.875f);
        Check.same("gone", gone, 2);
        Check.same("again", solver.ofRow(again, 0), 2.25f);
    }

    /** The lines above are those of README.md, one behind the other. */
    private static void isTheExample() throws IOException {
        List<String> example = codeOf(Files.readAllLines(Path.of("README.md")));
        List<String> lines = new ArrayList<>();
        for (String line : Files.readAllLines(Path.of("src/test/java/ReadmeTest.java"))) {
            lines.add(line.strip());
        }
        int first = lines.indexOf("IslandSolver solver = new IslandSolver();");
        Check.that("README.md has an example", example.size() > 10);
        Check.same("the example", example.toString(), lines.subList(first, first + example.size()).toString());
    }

    /** The lines of the first part marked as Java, without what is said about them. */
    private static List<String> codeOf(List<String> page) {
        List<String> code = new ArrayList<>();
        for (int i = page.indexOf("```java") + 1; i < page.size() && !page.get(i).equals("```"); i++) {
            code.add(page.get(i).replaceAll("//.*", "").strip());
        }
        return code;
    }
}
