import java.io.IOException;
import java.nio.charset.StandardCharsets;
import java.nio.file.Files;
import java.nio.file.Path;
import java.util.ArrayList;
import java.util.List;

/** The example of README.md: its lines are those that are called here, and each answers what stands behind it. */
public final class ReadmeTest {
    /** The lines of the example that are called here, with what they answered, as README.md should have them. */
    private static final List<String> called = new ArrayList<>();

    public static void main(String[] args) throws IOException {
        ColdCreamery creamery = new ColdCreamery();
        called.add("ColdCreamery creamery = new ColdCreamery();");
        int churn = answer("int churn = creamery.churn();", creamery.churn());
        int tub = answer("int tub = creamery.tub();", creamery.tub());
        answer("creamery.bring(0, 100);", creamery.bring(0, 100));
        answer("creamery.bring(1, 60);", creamery.bring(1, 60));
        answer("creamery.bring(2, 20);", creamery.bring(2, 20));
        answer("creamery.bring(3, 50);", creamery.bring(3, 50));
        answer("creamery.pour(churn, 20);", creamery.pour(churn, 20));
        int salt = answer("int salt = creamery.salt(churn, 40);", creamery.salt(churn, 40));
        answer("creamery.pack(churn, 40, salt);", creamery.pack(churn, 40, salt));
        int hours = answer("int hours = creamery.done(churn);", creamery.done(churn));
        answer("creamery.pass(hours);", creamery.pass(hours));
        answer("creamery.scoop(churn, tub);", creamery.scoop(churn, tub));
        answer("creamery.foresee(12, 9);", creamery.foresee(12, 9));
        answer("creamery.pass(12);", creamery.pass(12));
        answer("creamery.count(7);", creamery.count(7));
        Due.index(creamery, "told(1, 0)", () -> creamery.told(1, 0));
        Due.isText("the example", String.join("\n", called), String.join("\n", example()));
        Due.end("ReadmeTest");
    }

    private static int answer(String line, int answered) {
        called.add(line + " // " + answered);
        return answered;
    }

    /** The lines between the two signs of a Java text, each without the words behind its answer. */
    private static List<String> example() throws IOException {
        List<String> lines = new ArrayList<>();
        boolean inside = false;
        for (String line : Files.readAllLines(Path.of("README.md"), StandardCharsets.UTF_8)) {
            if (line.startsWith("```")) {
                inside = line.equals("```java");
            } else if (inside) {
                lines.add(line.replaceFirst("; +// (-?[0-9]+).*$", "; // $1"));
            }
        }
        return lines;
    }
}
