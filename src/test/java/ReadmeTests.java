import java.io.ByteArrayOutputStream;
import java.io.PrintStream;
import java.lang.reflect.Method;
import java.lang.reflect.Modifier;
import java.nio.file.Files;
import java.nio.file.Path;
import java.util.ArrayList;
import java.util.List;

/** README.md shows the example as it is, with the answers that it gives, and names each call. */
public final class ReadmeTests {
    private static final String BEFORE_ANSWER = "    // ";

    public static void main(String[] arguments) throws Exception {
        String readme = Files.readString(Path.of("README.md"));
        String example = Files.readString(Path.of("src/test/java/Example.java"));
        Check.same("README.md shows the example", true, readme.contains("```java\n" + example + "```"));
        Check.same("the answers of the example", toldAnswers(example), printedAnswers());
        for (Method method : NeedleBakery.class.getDeclaredMethods()) {
            if (Modifier.isPublic(method.getModifiers())) {
                Check.same("README.md names " + method.getName(), true, readme.contains("`" + method.getName() + "`"));
            }
        }
        Check.end("ReadmeTests");
    }

    private static List<String> toldAnswers(String example) {
        List<String> answers = new ArrayList<>();
        for (String line : example.split("\n")) {
            if (line.contains(BEFORE_ANSWER)) {
                answers.add(line.substring(line.indexOf(BEFORE_ANSWER) + BEFORE_ANSWER.length()));
            }
        }
        return answers;
    }

    private static List<String> printedAnswers() {
        PrintStream out = System.out;
        ByteArrayOutputStream printed = new ByteArrayOutputStream();
        System.setOut(new PrintStream(printed));
        try {
            Example.main(new String[0]);
        } finally {
            System.setOut(out);
        }
        return printed.toString().lines().toList();
    }
}
