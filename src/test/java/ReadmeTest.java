import java.io.IOException;
import java.nio.charset.StandardCharsets;
import java.nio.file.Files;
import java.nio.file.Path;
import java.util.List;

/** The example of README.md: it stands there as it is made here, and answers what it says. */
final class ReadmeTest {
    private static final Check check = new Check();

    public static void main(String[] args) throws IOException {
        check.sentence("README.md says how to use the class");
        List<String> lines = Files.readAllLines(Path.of("README.md"), StandardCharsets.UTF_8);
        PointMill mill = new PointMill();
        int triangle = mill.shape();
        told(lines, "int triangle = mill.shape();", () -> triangle);
        told(lines, "mill.add(triangle, -1, 0, 0, 0);", () -> mill.add(triangle, -1, 0, 0, 0));
        told(lines, "mill.add(triangle, 0, -1, 0, 0);", () -> mill.add(triangle, 0, -1, 0, 0));
        told(lines, "mill.add(triangle, 2, 3, 12, 1);", () -> mill.add(triangle, 2, 3, 12, 1));
        told(lines, "mill.isPlace(triangle);", () -> Mills.number(mill.isPlace(triangle)));
        told(lines, "mill.count(triangle, 0);", () -> mill.count(triangle, 0));
        told(lines, "mill.countAnew(triangle, 3);", () -> mill.countAnew(triangle, 3));
        told(lines, "mill.blown(triangle, 2, true);", () -> mill.blown(triangle, 2, true));
        told(lines, "mill.best(triangle, 0, 1, 2, 0);", () -> mill.best(triangle, 0, 1, 2, 0));
        told(lines, "mill.best(triangle, 0, 1, 2, 2);", () -> mill.best(triangle, 0, 1, 2, 2));
        told(lines, "mill.move(triangle, PointMill.SWAP);", () -> mill.move(triangle, PointMill.SWAP));
        told(lines, "mill.inequality(triangle, 2, 0);", () -> mill.inequality(triangle, 2, 0));
        told(lines, "mill.cut(triangle, 0, 3, 1, 6, 3);", () -> mill.cut(triangle, 0, 3, 1, 6, 3));
        told(lines, "mill.index(1, 0, 3, 7);", () -> mill.index(1, 0, 3, 7));
        told(lines, "mill.generator(1, 0, 3, 7, PointMill.NONE, true);",
                () -> mill.generator(1, 0, 3, 7, PointMill.NONE, true));
        told(lines, "mill.generatorAnew(1, 0, 3, 7, 2, false);", () -> mill.generatorAnew(1, 0, 3, 7, 2, false));
        told(lines, "mill.coin(6);", () -> mill.coin(6));
        told(lines, "mill.coin(10);", () -> mill.coin(10));
        told(lines, "mill.coin(15);", () -> mill.coin(15));
        told(lines, "mill.ways(30);", () -> mill.ways(30));
        told(lines, "mill.gap(5);", () -> mill.gap(5));
        told(lines, "mill.greatestGap();", () -> mill.greatestGap());
        told(lines, "mill.tables(5, 5, 3, 3);", () -> mill.tables(5, 5, 3, 3));
        check.end();
    }

    /** The line has its answer as the first word of its comment. */
    private static void told(List<String> lines, String call, Check.Call asked) {
        String answer = "nothing";
        for (String line : lines) {
            if (line.startsWith(call)) {
                answer = line.substring(line.indexOf("//") + 2).trim().split("[ ,:]")[0];
            }
        }
        String text = answer.equals("true") ? "1" : answer;
        boolean isNumber = text.matches("-?[0-9]+");
        check.isTrue(call + " is told: " + answer, isNumber);
        if (isNumber) {
            check.equal(call, Long.parseLong(text), asked);
        }
    }
}
