import java.lang.reflect.Constructor;
import java.lang.reflect.Field;
import java.lang.reflect.Method;
import java.lang.reflect.Modifier;
import java.nio.file.Files;
import java.nio.file.Path;
import java.util.Arrays;
import java.util.List;
import java.util.Set;
import java.util.TreeSet;
import java.util.stream.Collectors;

/** The face is the document's, to the letter, and nothing else of the class can be seen from outside. */
public final class FaceTests {
    public static void main(String[] arguments) throws Exception {
        Check.same("the class is public and final", true,
                Modifier.isPublic(NeedleBakery.class.getModifiers()) && Modifier.isFinal(NeedleBakery.class.getModifiers()));
        Check.same("the methods", documented(), declared());
        constructors();
        onlyPrivateElse();
        Check.end("FaceTests");
    }

    /** The lines of the document's face, as "int addNeedle(int) throws A, B". */
    private static Set<String> documented() throws Exception {
        List<String> lines = Files.readAllLines(Path.of("../shared/DOC.md"));
        return lines.stream().filter(line -> line.startsWith("    public ") && !line.contains(" NeedleBakery("))
                .map(line -> line.replace("    public ", "").replace(";", "").replaceAll("(int|char) [a-z]+([,)])", "$1$2"))
                .collect(Collectors.toCollection(TreeSet::new));
    }

    private static Set<String> declared() {
        Set<String> found = new TreeSet<>();
        for (Method method : NeedleBakery.class.getDeclaredMethods()) {
            if (Modifier.isPublic(method.getModifiers())) {
                String parameters = Arrays.stream(method.getParameterTypes()).map(Class::getSimpleName)
                        .collect(Collectors.joining(", "));
                String exceptions = Arrays.stream(method.getExceptionTypes()).map(Class::getSimpleName)
                        .collect(Collectors.joining(", "));
                found.add(method.getReturnType().getSimpleName() + " " + method.getName() + "(" + parameters + ")"
                        + (exceptions.isEmpty() ? "" : " throws " + exceptions));
            }
        }
        return found;
    }

    private static void constructors() {
        Constructor<?>[] all = NeedleBakery.class.getDeclaredConstructors();
        Check.same("the number of constructors", 1, all.length);
        Check.same("the constructor", "public NeedleBakery()", all[0].toString());
    }

    private static void onlyPrivateElse() {
        Set<String> names = new TreeSet<>();
        for (Method method : NeedleBakery.class.getDeclaredMethods()) {
            if (Modifier.isPublic(method.getModifiers())) {
                names.add(method.getName());
            }
        }
        for (Class<?> inside : NeedleBakery.class.getDeclaredClasses()) {
            Check.same(inside + " is static and not public", true, Modifier.isStatic(inside.getModifiers())
                    && !Modifier.isPublic(inside.getModifiers()) && !Modifier.isProtected(inside.getModifiers()));
            for (Method method : inside.getDeclaredMethods()) {
                Check.same(method + " has a name of its own", false, names.contains(method.getName()));
            }
        }
        for (Method method : NeedleBakery.class.getDeclaredMethods()) {
            boolean isPublic = Modifier.isPublic(method.getModifiers());
            Check.same(method + " is public or private", true, isPublic || Modifier.isPrivate(method.getModifiers()));
            Check.same(method + " has a name of its own", true, isPublic || !names.contains(method.getName()));
        }
        for (Field field : NeedleBakery.class.getDeclaredFields()) {
            Check.same(field + " is private", true, Modifier.isPrivate(field.getModifiers()));
            Check.same(field + " is final if static", true,
                    !Modifier.isStatic(field.getModifiers()) || Modifier.isFinal(field.getModifiers()));
        }
    }
}
