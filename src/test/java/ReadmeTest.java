import java.io.IOException;
import java.nio.file.Files;
import java.nio.file.Path;
import java.util.List;

/** The example of README.md: each of its lines is run here, and tells the answer that it has. */
public final class ReadmeTest {
    private static final Check CHECK = new Check("ReadmeTest");

    private static List<String> example;
    private static int line = 0;

    public static void main(String[] args) throws IOException {
        List<String> readme = Files.readAllLines(Path.of("README.md"));
        int from = readme.indexOf("```java") + 1;
        example = readme.subList(from, from + readme.subList(from, readme.size()).indexOf("```"));

        MatrixModule m = new MatrixModule();
        line++;
        int x = m.source(0, 2, 2, 0);
        told("int x = m.source(0, 2, 2, 0);", x);
        int zero = m.source(1, 2, 2, 0);
        told("int zero = m.source(1, 2, 2, 0);", zero);
        int sum = m.operation(3, x, zero, 0);
        told("int sum = m.operation(3, x, zero, 0);", sum);
        int square = m.operation(4, sum, x, 0);
        told("int square = m.operation(4, sum, x, 0);", square);
        told("m.mark(square, true);", m.mark(square, true));
        told("m.set(0, 0, 1, 7);", m.set(0, 0, 1, 7));
        told("m.work();", m.work());
        told("m.cell(square, 0, 1);", m.cell(square, 0, 1));
        told("m.simplify();", m.simplify());
        told("m.standIn(sum);", m.standIn(sum));
        told("m.count(2);", m.count(2));
        told("m.cell(square, 0, 1);", m.cell(square, 0, 1));
        told("m.work();", m.work());
        told("m.cell(m.standIn(square), 0, 1);", m.cell(m.standIn(square), 0, 1));
        told("m.operation(8, x, 9, 0);", m.operation(8, x, 9, 0));
        told("m.reshape(11, x, 1, 3);", m.reshape(11, x, 1, 3));
        CHECK.due("lines of the example", line, example.size());
        CHECK.end();
    }

    /** The next line of the example is this call, with its answer behind "//" before any words. */
    private static void told(String call, long answer) {
        String text = line < example.size() ? example.get(line) : "";
        line++;
        String[] parts = text.split("//");
        CHECK.due("line " + line + " of the example is " + call, parts[0].strip().equals(call) ? 1 : 0, 1);
        String told = parts.length < 2 ? "" : parts[1].strip().split(":")[0];
        CHECK.due(call + " answered " + answer + ", is told as", told.equals(Long.toString(answer)) ? 1 : 0, 1);
    }
}
