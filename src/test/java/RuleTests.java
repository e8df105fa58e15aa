import java.nio.file.Files;
import java.nio.file.Path;
import java.util.Set;
import java.util.TreeSet;
import java.util.regex.Matcher;
import java.util.regex.Pattern;

/** What of ../shared/LANGUAGE.md can be told from the words of the source alone. */
public final class RuleTests {
    private static final Path SOURCE = Path.of("src/main/java/NeedleBakery.java");
    private static final int MOST_LINES = 60;
    private static final int MOST_CLASSES = 12;

    public static void main(String[] arguments) throws Exception {
        String text = Files.readString(SOURCE);
        String code = text.replaceAll("(?s)/\\*.*?\\*/", "").replaceAll("//.*", "").replaceAll("\"[^\"\n]*\"", "\"\"");
        Check.same("no package line", false, code.contains("package "));
        Check.same("imports", Set.of("java.util.Arrays", "java.util.NoSuchElementException"),
                all(code, "import ([a-zA-Z.]+);"));
        String[] forbidden = {"->", "::", "\\bcatch\\b", "\\btry\\b", "\\bfinally\\b", "\\bassert\\b", "\\bsynchronized\\b",
            "\\bvar\\b", "\"\" *\\+", "\\+ *\"\"", "Exact\\b", "\\bstatic *\\{", "\\bRandom\\b", "\\bThread\\b",
            "\\bSystem\\.(?!arraycopy)", "\\bnull\\b", "\\bobject\\.equals\\b", "\\.format\\b", "\\bInteger\\.(?!bitCount)"};
        for (String word : forbidden) {
            Check.same("no " + word, Set.of(), all(code, "(" + word + ")"));
        }
        Check.same("the exceptions", Set.of("ArithmeticException", "IllegalArgumentException", "IllegalStateException",
                "IndexOutOfBoundsException", "NoSuchElementException", "UnsupportedOperationException"),
                all(code, "throw new ([a-zA-Z]+)\\(\"\"\\);"));
        Check.same("what is thrown is made there", code.split("\\bthrow\\b").length, code.split("throw new ").length);
        Check.same("few classes", true, code.split("\\b(class|enum|interface|record) [A-Z]").length - 1 <= MOST_CLASSES);
        Check.same("signs of the source", true, text.chars().allMatch(sign -> sign == '\n' || sign >= 32 && sign <= 126));
        Check.same("long methods", Set.of(), longMethods(text.split("\n")));
        Check.end("RuleTests");
    }

    private static Set<String> all(String code, String pattern) {
        Set<String> found = new TreeSet<>();
        Matcher matcher = Pattern.compile(pattern).matcher(code);
        while (matcher.find()) {
            found.add(matcher.group(1));
        }
        return found;
    }

    private static Set<String> longMethods(String[] lines) {
        Set<String> found = new TreeSet<>();
        for (int start = 0; start < lines.length; start++) {
            String indent = lines[start].replaceAll("\\S.*", "");
            boolean opens = lines[start].endsWith("{") && lines[start].contains(") ") && (indent.length() == 4 || indent.length() == 8);
            int end = start;
            while (opens && end < lines.length && !lines[end].equals(indent + "}")) {
                end++;
            }
            if (end - start >= MOST_LINES) {
                found.add(lines[start].trim());
            }
        }
        return found;
    }
}
