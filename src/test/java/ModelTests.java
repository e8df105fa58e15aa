import java.lang.reflect.InvocationTargetException;
import java.lang.reflect.Method;
import java.util.ArrayList;
import java.util.Arrays;
import java.util.Comparator;
import java.util.List;

/** Long runs of calls, the same ones every time, answered alike by NeedleBakery and by Model. */
public final class ModelTests {
    private static final int RUNS = 1500;
    private static final int CALLS = 512;
    private static final int[] ODD_NUMBERS = {-1, 0, 8, 21, -21, 41, 60, 61, 99, 100, 359, 360, 999, 1000,
        Integer.MIN_VALUE, Integer.MAX_VALUE};
    private static final String[] SIGNS = {"0", "9", "-", " ", ";", "/", "a", "b", "s", "~", ":", "12"};

    private final Draws draws;
    private final NeedleBakery bakery = new NeedleBakery();
    private final Model model = new Model();
    private final List<Method> methods = new ArrayList<>();
    private final StringBuilder story = new StringBuilder();
    private int calls = 0;
    /** A run with few modifications asks more questions of one state. */
    private final int modifyingPercent;

    /** A row of numbers that look drawn by chance, but are the same ones every time. */
    private static final class Draws {
        private long seed;

        Draws(long seed) {
            this.seed = seed * 7919 + 17;
        }

        int below(int bound) {
            seed = seed * 6364136223846793005L + 1442695040888963407L;
            return (int) ((seed >>> 33) % bound);
        }

        int between(int least, int most) {
            return least + below(most - least + 1);
        }
    }

    private ModelTests(int run) {
        draws = new Draws(run);
        modifyingPercent = draws.between(20, 80);
        for (Method method : NeedleBakery.class.getDeclaredMethods()) {
            if (java.lang.reflect.Modifier.isPublic(method.getModifiers())) {
                methods.add(method);
            }
        }
        // The order of reflection is not the same everywhere.
        methods.sort(Comparator.comparing(Method::getName));
    }

    public static void main(String[] arguments) {
        for (int run = 0; run < RUNS; run++) {
            if (!new ModelTests(run).agree(run)) {
                break;
            }
        }
        Check.end("ModelTests");
    }

    private boolean agree(int run) {
        while (calls < CALLS) {
            boolean modifying = draws.below(100) < modifyingPercent;
            boolean alike = modifying ? modify() : ask();
            if (!alike) {
                System.out.println("run " + run + ":\n" + story);
                return false;
            }
        }
        Check.same("run " + run + " agrees", true, true);
        return true;
    }

    private boolean modify() {
        switch (draws.below(13)) {
            case 0: return call("addNeedle", strength());
            case 1: case 2: case 3: return call("setDeviation", needle(), draws.below(8), degrees());
            case 4: return call("shift", needle(), draws.between(-12, 12));
            case 5: return call("correct", needle());
            case 6: return draws.below(4) == 0 ? call("discard", needle()) : call("setTolerance", draws.between(0, 20));
            case 7: case 8: return call("addBatch", draws.between(1, 60), due(), draws.between(1, 9));
            case 9: return call(draws.below(3) == 0 ? "dropBatch" : "bake", batch());
            case 10: return call("rest", draws.between(1, 60));
            case 11: return programs();
            default: return call(new String[] {"undo", "undo", "undo", "save", "restore"}[draws.below(5)]);
        }
    }

    /** Any call at all, often with numbers that are out of range. */
    private boolean ask() {
        Method method = methods.get(draws.below(methods.size()));
        String name = method.getName();
        if (name.equals("execute") || name.equals("restore")) {
            return true;
        }
        Object[] arguments = new Object[method.getParameterCount()];
        for (int i = 0; i < arguments.length; i++) {
            arguments[i] = argument(method, i);
        }
        return call(name, arguments);
    }

    private Object argument(Method method, int place) {
        if (method.getParameterTypes()[place] == char.class) {
            return (char) (draws.below(3) == 0 ? draws.below(300) : draws.between(32, 126));
        }
        if (draws.below(8) == 0) {
            return ODD_NUMBERS[draws.below(ODD_NUMBERS.length)];
        }
        boolean course = method.getName().contains("ourse") && place == 1;
        boolean label = method.getName().equals("labelAt");
        boolean id = method.getName().equals("latenessNow");
        return course ? draws.between(0, 359) : label ? draws.below(30) : id ? batch() : draws.below(9);
    }

    private int strength() {
        return draws.below(20) == 0 ? draws.between(-1, 101) : draws.below(2) == 0 ? draws.between(40, 50) : draws.between(1, 99);
    }

    private int needle() {
        return draws.below(20) == 0 ? 8 : draws.below(Math.max(1, model.needleCount()));
    }

    private int degrees() {
        return draws.below(4) == 0 ? draws.between(-20, 20) : draws.between(-6, 6);
    }

    private int due() {
        return Math.min(999, 1 + draws.below(2) * model.clock() + draws.below(300));
    }

    private int batch() {
        boolean none = model.batchCount() == 0 || draws.below(10) == 0;
        return none ? draws.below(20) : model.batchAt(draws.below(model.batchCount()));
    }

    private boolean programs() {
        StringBuilder text = new StringBuilder(command());
        for (int more = draws.below(5); more > 0; more--) {
            text.append(';').append(command());
        }
        if (draws.below(3) == 0) {
            int at = draws.below(text.length() + 1);
            String sign = SIGNS[draws.below(SIGNS.length)];
            switch (draws.below(3)) {
                case 0: text.insert(at, sign); break;
                case 1: text.setLength(at); break;
                default: text.replace(at, Math.min(at + 1, text.length()), sign); break;
            }
        }
        boolean alike = true;
        for (int i = 0; i < text.length() && alike; i++) {
            alike = call("type", text.charAt(i));
        }
        return alike && call("execute") && call("errorPosition") && call("failedCommand");
    }

    private String command() {
        String form = new String[] {"needle S", "set N H D", "set N H D", "shift N D", "correct N", "discard N", "limit L",
            "batch M/U W", "batch M/U W", "drop B", "bake B", "rest M"}[draws.below(12)];
        return form.replace("S", "" + Math.max(0, strength())).replace("N", "" + needle()).replace("H", "" + draws.below(8))
                .replace("D", "" + degrees()).replace("L", "" + draws.between(0, 20)).replace("M", "" + draws.between(1, 60))
                .replace("U", "" + due()).replace("W", "" + draws.between(1, 9)).replace("B", "" + batch());
    }

    private boolean call(String name, Object... arguments) {
        // What an object answers after its last call is free, also in the midst of a program.
        if (calls == CALLS) {
            return true;
        }
        calls++;
        Object due = answer(model, name, arguments);
        Object got = answer(bakery, name, arguments);
        story.append(name).append(Arrays.toString(arguments)).append(" -> ").append(got).append('\n');
        if (!due.equals(got)) {
            Check.same(name + Arrays.toString(arguments), due, got);
        }
        return due.equals(got);
    }

    private Object answer(Object of, String name, Object... arguments) {
        try {
            for (Method method : methods) {
                if (method.getName().equals(name)) {
                    Method own = of.getClass().getDeclaredMethod(name, method.getParameterTypes());
                    return own.invoke(of, arguments);
                }
            }
            throw new AssertionError(name);
        } catch (InvocationTargetException e) {
            return "throws." + e.getCause().getClass().getSimpleName();
        } catch (ReflectiveOperationException e) {
            throw new AssertionError(e);
        }
    }
}
