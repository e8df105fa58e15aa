import java.util.ArrayDeque;
import java.util.ArrayList;
import java.util.Arrays;
import java.util.Collections;
import java.util.Comparator;
import java.util.List;
import java.util.NoSuchElementException;
import java.util.regex.Matcher;
import java.util.regex.Pattern;

/** A second bakery, written for plainness alone: it copies all, and searches by trying everything. */
final class Model {
    private static final String DEGREES = "-?[0-9]{1,3}";
    private static final String NUMBER = "[0-9]{1,3}";
    private static final String COMMAND = "(needle " + NUMBER + "|set [0-9] [0-9] " + DEGREES + "|shift [0-9] " + DEGREES
            + "|correct [0-9]|discard [0-9]|limit " + NUMBER + "|batch " + NUMBER + "/" + NUMBER + " [0-9]|drop " + NUMBER
            + "|bake " + NUMBER + "|rest " + NUMBER + ")";
    private static final Pattern PROGRAM = Pattern.compile(COMMAND + "(;" + COMMAND + ")*");

    private static final class Needle implements Cloneable {
        int strength;
        int[] table = new int[8];
        boolean discarded;

        Needle copy() {
            Needle copy = new Needle();
            copy.strength = strength;
            copy.table = table.clone();
            copy.discarded = discarded;
            return copy;
        }
    }

    private record Batch(int id, int minutes, int due, int weight) {
    }

    private static final class State {
        List<Needle> needles = new ArrayList<>();
        int tolerance = 10;
        List<Batch> batches = new ArrayList<>();
        int clock;
        int nextId;
        int baked;
        int bakedMinutes;
        long lateness;

        State copy() {
            State copy = new State();
            for (Needle needle : needles) {
                copy.needles.add(needle.copy());
            }
            copy.tolerance = tolerance;
            copy.batches.addAll(batches);
            copy.clock = clock;
            copy.nextId = nextId;
            copy.baked = baked;
            copy.bakedMinutes = bakedMinutes;
            copy.lateness = lateness;
            return copy;
        }
    }

    private State now = new State();
    private State saved;
    private final ArrayDeque<State> undoable = new ArrayDeque<>();
    private String label = "";
    private String buffer = "";
    private Integer errorAt;
    private Integer failedAt;
    private boolean inProgram;

    private void remember() {
        if (!inProgram) {
            undoable.addLast(now.copy());
            if (undoable.size() > 8) {
                undoable.removeFirst();
            }
        }
    }

    private static void argument(boolean right) {
        if (!right) {
            throw new IllegalArgumentException();
        }
    }

    private static void state(boolean right) {
        if (!right) {
            throw new IllegalStateException();
        }
    }

    private static void element(boolean right) {
        if (!right) {
            throw new NoSuchElementException();
        }
    }

    private static boolean within(int number, int least, int most) {
        return least <= number && number <= most;
    }

    private Needle needle(int number) {
        if (!within(number, 0, now.needles.size() - 1)) {
            throw new IndexOutOfBoundsException();
        }
        return now.needles.get(number);
    }

    private Batch batch(int id) {
        for (Batch batch : now.batches) {
            if (batch.id == id) {
                return batch;
            }
        }
        throw new NoSuchElementException();
    }

    int addNeedle(int strength) {
        argument(within(strength, 1, 99));
        state(now.needles.size() < 8);
        remember();
        Needle needle = new Needle();
        needle.strength = strength;
        now.needles.add(needle);
        return now.needles.size() - 1;
    }

    int setDeviation(int number, int heading, int degrees) {
        needle(number);
        argument(within(heading, 0, 7) && within(degrees, -20, 20));
        state(!needle(number).discarded);
        remember();
        int before = needle(number).table[heading];
        needle(number).table[heading] = degrees;
        return before;
    }

    private void shiftTable(int number, int degrees) {
        state(!needle(number).discarded);
        for (int deviation : needle(number).table) {
            if (!within(deviation + degrees, -20, 20)) {
                throw new UnsupportedOperationException();
            }
        }
        remember();
        needle(number).table = Arrays.stream(needle(number).table).map(d -> d + degrees).toArray();
    }

    int shift(int number, int degrees) {
        needle(number);
        argument(within(degrees, -40, 40));
        shiftTable(number, degrees);
        return errorOf(number);
    }

    int correct(int number) {
        int best = bestShift(number);
        shiftTable(number, best);
        return best;
    }

    int discard(int number) {
        state(!needle(number).discarded);
        remember();
        needle(number).discarded = true;
        return (int) now.needles.stream().filter(n -> n.discarded).count();
    }

    int setTolerance(int degrees) {
        argument(within(degrees, 0, 20));
        remember();
        now.tolerance = degrees;
        return (int) now.needles.stream().filter(this::rejected).count();
    }

    int needleCount() {
        return now.needles.size();
    }

    int strengthOf(int number) {
        return needle(number).strength;
    }

    boolean isDiscarded(int number) {
        return needle(number).discarded;
    }

    private boolean rejected(Needle needle) {
        return Arrays.stream(needle.table).anyMatch(d -> Math.abs(d) > now.tolerance);
    }

    boolean isReject(int number) {
        return rejected(needle(number));
    }

    int tolerance() {
        return now.tolerance;
    }

    int deviationAt(int number, int course) {
        int[] table = needle(number).table;
        argument(within(course, 0, 359));
        int r = 0;
        int at = course;
        while (at % 45 != 0) {
            at--;
            r++;
        }
        int next = table[at == 315 ? 0 : at / 45 + 1];
        // From 900 up no sum is below 0, so that the division cuts off as it is to round.
        return (table[at / 45] * (45 - r) + next * r + 45 * 20) / 45 - 20;
    }

    int trueCourse(int number, int course) {
        return (course + deviationAt(number, course) + 360) % 360;
    }

    int courseFor(int number, int wanted) {
        needle(number);
        argument(within(wanted, 0, 359));
        for (int course = 0; course < 360; course++) {
            if (trueCourse(number, course) == wanted) {
                return course;
            }
        }
        throw new NoSuchElementException();
    }

    int courseForNearby(int number, int wanted) {
        return courseFor(number, wanted);
    }

    int missedCourses(int number) {
        needle(number);
        int missed = 0;
        for (int wanted = 0; wanted < 360; wanted++) {
            boolean met = false;
            for (int course = 0; course < 360 && !met; course++) {
                met = trueCourse(number, course) == wanted;
            }
            missed += met ? 0 : 1;
        }
        return missed;
    }

    private int error(int number, int degrees) {
        return Arrays.stream(needle(number).table).map(d -> (d + degrees) * (d + degrees)).sum();
    }

    int errorOf(int number) {
        return error(number, 0);
    }

    int bestShift(int number) {
        needle(number);
        List<Integer> shifts = new ArrayList<>();
        for (int degrees = -20; degrees <= 20; degrees++) {
            shifts.add(degrees);
        }
        return Collections.min(shifts,
                Comparator.comparingInt((Integer d) -> error(number, d)).thenComparingInt(d -> Math.abs(d)));
    }

    int bestShiftBySum(int number) {
        return bestShift(number);
    }

    int needleAtRank(int rank) {
        List<Integer> numbers = new ArrayList<>();
        for (int number = 0; number < now.needles.size(); number++) {
            numbers.add(number);
        }
        numbers.sort(Comparator.comparingInt((Integer n) -> errorOf(n)).thenComparingInt(n -> -strengthOf(n)));
        element(within(rank, 0, numbers.size() - 1));
        return numbers.get(rank);
    }

    private List<Integer> good() {
        List<Integer> good = new ArrayList<>();
        for (int number = 0; number < now.needles.size(); number++) {
            if (!isDiscarded(number) && !isReject(number)) {
                good.add(number);
            }
        }
        return good;
    }

    double meanError() {
        if (good().isEmpty()) {
            throw new ArithmeticException();
        }
        return (double) good().stream().mapToInt(this::errorOf).sum() / (double) good().size();
    }

    int goodCount() {
        return good().size();
    }

    /** All pairings of the numbers, each as pairs one after the other. */
    private static List<List<Integer>> pairings(List<Integer> numbers, boolean mayLeave) {
        List<List<Integer>> all = new ArrayList<>();
        if (numbers.isEmpty()) {
            all.add(new ArrayList<>());
            return all;
        }
        int last = numbers.get(numbers.size() - 1);
        List<Integer> others = numbers.subList(0, numbers.size() - 1);
        if (mayLeave) {
            all.addAll(pairings(others, false));
        }
        for (int partner : others) {
            List<Integer> left = new ArrayList<>(others);
            left.remove((Integer) partner);
            for (List<Integer> pairing : pairings(left, mayLeave)) {
                pairing.add(last);
                pairing.add(partner);
                all.add(pairing);
            }
        }
        return all;
    }

    private List<List<Integer>> goodPairings() {
        return pairings(good(), good().size() % 2 == 1);
    }

    private int difference(List<Integer> pairing) {
        int sum = 0;
        for (int i = 0; i < pairing.size(); i += 2) {
            sum += Math.abs(strengthOf(pairing.get(i)) - strengthOf(pairing.get(i + 1)));
        }
        return sum;
    }

    int leastDifference() {
        return goodPairings().stream().mapToInt(this::difference).min().getAsInt();
    }

    int leastDifferenceByOrder() {
        return leastDifference();
    }

    int partnerOf(int number) {
        needle(number);
        int least = leastDifference();
        int lowest = 8;
        for (List<Integer> pairing : goodPairings()) {
            int place = pairing.indexOf(number);
            if (place >= 0 && difference(pairing) == least) {
                lowest = Math.min(lowest, pairing.get(place % 2 == 0 ? place + 1 : place - 1));
            }
        }
        element(lowest < 8);
        return lowest;
    }

    int addBatch(int minutes, int due, int weight) {
        argument(within(minutes, 1, 60) && within(due, 1, 999) && within(weight, 1, 9));
        state(now.batches.size() < 7);
        remember();
        now.batches.add(new Batch(now.nextId, minutes, due, weight));
        return now.nextId++;
    }

    int dropBatch(int id) {
        Batch batch = batch(id);
        remember();
        now.batches.remove(batch);
        return now.batches.size();
    }

    int bake(int id) {
        Batch batch = batch(id);
        int late = latenessNow(id);
        remember();
        now.batches.remove(batch);
        now.clock += batch.minutes;
        now.bakedMinutes += batch.minutes;
        now.baked++;
        now.lateness += late;
        return late;
    }

    int rest(int minutes) {
        argument(within(minutes, 1, 60));
        remember();
        now.clock += minutes;
        return now.clock;
    }

    int clock() {
        return now.clock;
    }

    int batchCount() {
        return now.batches.size();
    }

    int batchAt(int position) {
        if (!within(position, 0, now.batches.size() - 1)) {
            throw new IndexOutOfBoundsException();
        }
        return now.batches.get(position).id;
    }

    int latenessNow(int id) {
        return lateness(List.of(batch(id)));
    }

    private int lateness(List<Batch> order) {
        int minute = now.clock;
        int sum = 0;
        for (Batch batch : order) {
            minute += batch.minutes;
            sum += batch.weight * Math.max(0, minute - batch.due);
        }
        return sum;
    }

    private List<List<Batch>> orders(List<Batch> batches) {
        List<List<Batch>> all = new ArrayList<>();
        if (batches.isEmpty()) {
            all.add(new ArrayList<>());
        }
        for (Batch last : batches) {
            List<Batch> others = new ArrayList<>(batches);
            others.remove(last);
            for (List<Batch> order : orders(others)) {
                order.add(last);
                all.add(order);
            }
        }
        return all;
    }

    int leastLateness() {
        return orders(now.batches).stream().mapToInt(this::lateness).min().getAsInt();
    }

    int leastLatenessByOrders() {
        return leastLateness();
    }

    int bestFirst() {
        element(!now.batches.isEmpty());
        int least = leastLateness();
        return orders(now.batches).stream().filter(o -> lateness(o) == least).mapToInt(o -> o.get(0).id).min().getAsInt();
    }

    int latenessByIds() {
        return lateness(now.batches);
    }

    int bakedCount() {
        return now.baked;
    }

    long latenessTotal() {
        return now.lateness;
    }

    float bakingShare() {
        if (now.clock == 0) {
            throw new ArithmeticException();
        }
        return (float) now.bakedMinutes / (float) now.clock;
    }

    int writeLabel(int number) {
        Needle needle = needle(number);
        String table = Arrays.toString(needle.table).replaceAll("[\\[\\],]", "");
        String end = needle.discarded ? " x" : rejected(needle) ? " ?" : "";
        label = number + ":" + needle.strength + " " + table + end;
        return label.length();
    }

    char labelAt(int index) {
        if (!within(index, 0, label.length() - 1)) {
            throw new IndexOutOfBoundsException();
        }
        return label.charAt(index);
    }

    int type(char character) {
        argument(within(character, 32, 126));
        state(buffer.length() < 60);
        buffer += character;
        return buffer.length();
    }

    private static boolean canGoOn(String text) {
        Matcher matcher = PROGRAM.matcher(text);
        return matcher.matches() || matcher.hitEnd();
    }

    int execute() {
        String text = buffer;
        buffer = "";
        if (!PROGRAM.matcher(text).matches()) {
            int at = 0;
            while (at < text.length() && canGoOn(text.substring(0, at + 1))) {
                at++;
            }
            errorAt = at;
            throw new IllegalArgumentException();
        }
        String[] commands = text.split(";");
        State before = now.copy();
        for (int index = 0; index < commands.length; index++) {
            inProgram = true;
            try {
                perform(commands[index]);
            } catch (RuntimeException e) {
                now = before;
                failedAt = index;
                throw new IllegalStateException();
            } finally {
                inProgram = false;
            }
        }
        State after = now;
        now = before;
        remember();
        now = after;
        return commands.length;
    }

    private void perform(String command) {
        String[] words = command.split("[ /]");
        int[] n = Arrays.stream(words).skip(1).mapToInt(Integer::parseInt).toArray();
        switch (words[0]) {
            case "needle" -> addNeedle(n[0]);
            case "set" -> setDeviation(n[0], n[1], n[2]);
            case "shift" -> shift(n[0], n[1]);
            case "correct" -> correct(n[0]);
            case "discard" -> discard(n[0]);
            case "limit" -> setTolerance(n[0]);
            case "batch" -> addBatch(n[0], n[1], n[2]);
            case "drop" -> dropBatch(n[0]);
            case "bake" -> bake(n[0]);
            case "rest" -> rest(n[0]);
            default -> throw new AssertionError(command);
        }
    }

    int errorPosition() {
        element(errorAt != null);
        return errorAt;
    }

    int failedCommand() {
        element(failedAt != null);
        return failedAt;
    }

    int undo() {
        state(!undoable.isEmpty());
        now = undoable.removeLast();
        return undoable.size();
    }

    int save() {
        saved = now.copy();
        return now.clock;
    }

    int restore() {
        state(saved != null);
        now = saved.copy();
        undoable.clear();
        return now.clock;
    }
}
