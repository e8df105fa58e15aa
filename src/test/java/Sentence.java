import java.io.IOException;
import java.io.UncheckedIOException;
import java.nio.file.Files;
import java.nio.file.Path;
import java.util.ArrayList;
import java.util.LinkedHashMap;
import java.util.List;
import java.util.Map;
import java.util.TreeMap;

/** A sentence of the document, word for word, with the checks that are its own. */
final class Sentence {
    interface Setup {
        NeedleBakery bakery();
    }

    interface Call {
        Object on(NeedleBakery x);
    }

    private static final Map<String, List<String>> DOCUMENT = read();
    private static final Map<String, Integer> CHECKS = new TreeMap<>();

    private final String head;
    private final String words;

    private Sentence(String head, String words) {
        this.head = head;
        this.words = words;
        boolean stands = DOCUMENT.getOrDefault(head, List.of()).stream().anyMatch(line -> line.contains(words));
        Check.same("the document says under " + head + ": " + words, true, stands);
        CHECKS.putIfAbsent(name(), 0);
    }

    static Sentence of(int promise, String words) {
        return new Sentence("Promise " + promise, words);
    }

    static Sentence ofTerms(String words) {
        return new Sentence("Terms", words);
    }

    static Sentence ofWhatItIs(String words) {
        return new Sentence("What it is", words);
    }

    private String name() {
        return head + ": " + words;
    }

    private String label(String call) {
        CHECKS.merge(name(), 1, Integer::sum);
        return "[" + name() + "] " + call;
    }

    void due(String call, Object want, Check.Call caller) {
        Check.due(label(call), want, caller);
    }

    void throwsDue(String call, Class<? extends RuntimeException> want, Check.Call caller) {
        Check.throwsDue(label(call), want, caller);
    }

    /** Both ends of a range are taken; the numbers beyond them and the farthest ints are refused. */
    void range(int least, int most, Class<? extends RuntimeException> refusal, Setup setup, RangeCall call) {
        for (int number : new int[] {least, most}) {
            NeedleBakery x = setup.bakery();
            Object answer = Check.answerOf(() -> call.on(x, number));
            Check.same(label("the end " + number + " is taken"), false, answer.toString().startsWith("throws."));
        }
        for (int number : new int[] {least - 1, most + 1, Integer.MIN_VALUE, Integer.MAX_VALUE}) {
            throwsDue("the number " + number, refusal, () -> call.on(setup.bakery(), number));
        }
    }

    interface RangeCall {
        Object on(NeedleBakery x, int number);
    }

    /** The call throws, and nothing that can be read differs afterwards from a bakery without the call. */
    void refuses(String call, Class<? extends RuntimeException> want, Setup setup, Call caller) {
        NeedleBakery x = setup.bakery();
        throwsDue(call, want, () -> caller.on(x));
        Check.same(label("what can be read after " + call), Reading.of(setup.bakery()), Reading.of(x));
    }

    /** Each line of the document that tells a number or a refusal has a sentence here with checks of its own. */
    static void noneForgotten() {
        CHECKS.forEach((name, checks) -> Check.same("checks of " + name, true, checks > 0));
        DOCUMENT.forEach((head, lines) -> {
            for (String line : lines) {
                if (head.equals("Terms") || head.startsWith("Promise ")) {
                    parts(head, line).stream().filter(Sentence::tellsBoundary)
                            .forEach(part -> Check.same("a test of " + head + ": " + part, true, isTested(head, part)));
                }
            }
        });
    }

    private static boolean tellsBoundary(String part) {
        return part.startsWith("Throws ") || part.matches("(?s).*([0-9]|number|digit).*");
    }

    private static boolean isTested(String head, String part) {
        String start = head + ": ";
        return CHECKS.keySet().stream().anyMatch(name -> name.startsWith(start) && part.contains(name.substring(start.length())));
    }

    /** Lines of the grammar part at the bars, lines of a promise at its signature, all others at full stops. */
    private static List<String> parts(String head, String line) {
        if (line.contains(" = ") || line.contains(" | ")) {
            return List.of(line.split(" \\| "));
        }
        if (line.startsWith("Ahead of the calls ")) {
            return List.of();
        }
        String told = line.startsWith("`") ? line.substring(line.indexOf("`: ") + 3) : line;
        return List.of(told.split("(?<=\\.) "));
    }

    private static Map<String, List<String>> read() {
        Map<String, List<String>> sections = new LinkedHashMap<>();
        List<String> section = new ArrayList<>();
        try {
            for (String line : Files.readAllLines(Path.of("../shared/DOC.md"))) {
                if (line.startsWith("## ")) {
                    section = new ArrayList<>();
                    sections.put(line.substring(3).replaceAll("(Promise [0-9]+):.*", "$1"), section);
                } else if (!line.isBlank()) {
                    section.add(line);
                }
            }
        } catch (IOException e) {
            throw new UncheckedIOException(e);
        }
        return sections;
    }
}
