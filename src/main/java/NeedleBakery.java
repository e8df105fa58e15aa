import java.util.Arrays;
import java.util.NoSuchElementException;

/** A bakery of compass needles; ../shared/DOC.md says what every call promises. */
public final class NeedleBakery {
    private static final int MOST_NEEDLES = 8;
    private static final int MOST_STRENGTH = 99;
    private static final int HEADINGS = 8;
    private static final int HEADING_STEP = 45;
    private static final int COURSES = 360;
    private static final int MOST_DEVIATION = 20;
    private static final int MOST_SHIFT = 40;
    private static final int MOST_BEST_SHIFT = 20;
    private static final int MOST_TOLERANCE = 20;
    private static final int FIRST_TOLERANCE = 10;
    private static final int MOST_BATCHES = 7;
    private static final int MOST_MINUTES = 60;
    private static final int MOST_DUE = 999;
    private static final int MOST_WEIGHT = 9;
    private static final int MOST_CHARACTERS = 60;
    private static final int MOST_UNDOS = 8;
    private static final int NONE = -1;
    private static final int BEYOND_ALL = 0x7fffffff;

    private static final Change[] CHANGES = Change.values();

    private final State state = new State();
    private final State snapshot = new State();
    private boolean hasSnapshot;
    private final History history = new History();
    private final Pairs pairs = new Pairs();
    private final Orders orders = new Orders();
    private final int[] reached = new int[COURSES];
    private final StringBuilder label = new StringBuilder();
    private final Program program = new Program();
    private int errorPosition = NONE;
    private int failedCommand = NONE;

    public NeedleBakery() {
    }

    // ---- needles

    public int addNeedle(int strength) throws IllegalArgumentException, IllegalStateException {
        return modify(Change.NEEDLE, strength, 0, 0);
    }

    public int setDeviation(int needle, int heading, int degrees)
            throws IndexOutOfBoundsException, IllegalArgumentException, IllegalStateException {
        return modify(Change.SET, needle, heading, degrees);
    }

    public int shift(int needle, int degrees) throws IndexOutOfBoundsException, IllegalArgumentException,
            IllegalStateException, UnsupportedOperationException {
        return modify(Change.SHIFT, needle, degrees, 0);
    }

    public int correct(int needle)
            throws IndexOutOfBoundsException, IllegalStateException, UnsupportedOperationException {
        return modify(Change.CORRECT, needle, 0, 0);
    }

    public int discard(int needle) throws IndexOutOfBoundsException, IllegalStateException {
        return modify(Change.DISCARD, needle, 0, 0);
    }

    public int setTolerance(int degrees) throws IllegalArgumentException {
        return modify(Change.LIMIT, degrees, 0, 0);
    }

    public int needleCount() {
        return state.needles.count;
    }

    public int strengthOf(int needle) throws IndexOutOfBoundsException {
        needNeedle(needle);
        return state.needles.strengths[needle];
    }

    public boolean isDiscarded(int needle) throws IndexOutOfBoundsException {
        needNeedle(needle);
        return state.needles.isOut(needle);
    }

    public boolean isReject(int needle) throws IndexOutOfBoundsException {
        needNeedle(needle);
        return state.needles.isTooWide(needle);
    }

    public int tolerance() {
        return state.needles.tolerance;
    }

    // ---- courses and shifts

    public int deviationAt(int needle, int course) throws IndexOutOfBoundsException, IllegalArgumentException {
        needNeedle(needle);
        needCourse(course);
        return state.needles.interpolated(needle, course);
    }

    public int trueCourse(int needle, int course) throws IndexOutOfBoundsException, IllegalArgumentException {
        needNeedle(needle);
        needCourse(course);
        return state.needles.corrected(needle, course);
    }

    public int courseFor(int needle, int wanted)
            throws IndexOutOfBoundsException, IllegalArgumentException, NoSuchElementException {
        needNeedle(needle);
        needCourse(wanted);
        return found(state.needles.lowestCourse(needle, wanted));
    }

    public int courseForNearby(int needle, int wanted)
            throws IndexOutOfBoundsException, IllegalArgumentException, NoSuchElementException {
        needNeedle(needle);
        needCourse(wanted);
        return found(state.needles.lowestNearbyCourse(needle, wanted));
    }

    public int missedCourses(int needle) throws IndexOutOfBoundsException {
        needNeedle(needle);
        Arrays.fill(reached, 0);
        for (int course = 0; course < COURSES; course++) {
            reached[state.needles.corrected(needle, course)] = 1;
        }
        int missed = 0;
        for (int course = 0; course < COURSES; course++) {
            missed += 1 - reached[course];
        }
        return missed;
    }

    public int errorOf(int needle) throws IndexOutOfBoundsException {
        needNeedle(needle);
        return state.needles.errorShiftedBy(needle, 0);
    }

    public int bestShift(int needle) throws IndexOutOfBoundsException {
        needNeedle(needle);
        return state.needles.shiftByTrying(needle);
    }

    public int bestShiftBySum(int needle) throws IndexOutOfBoundsException {
        needNeedle(needle);
        return state.needles.shiftFromSum(needle);
    }

    public int needleAtRank(int rank) throws NoSuchElementException {
        Needles needles = state.needles;
        for (int needle = 0; needle < needles.count; needle++) {
            if (needles.countAheadOf(needle) == rank) {
                return needle;
            }
        }
        throw new NoSuchElementException("there is no such rank");
    }

    public double meanError() throws ArithmeticException {
        Needles needles = state.needles;
        int good = needles.goodSet();
        int number = Integer.bitCount(good);
        if (number == 0) {
            throw new ArithmeticException("there are no good needles");
        }
        int sum = 0;
        for (int needle = 0; needle < needles.count; needle++) {
            if (holds(good, needle)) {
                sum += needles.errorShiftedBy(needle, 0);
            }
        }
        return (double) sum / (double) number;
    }

    // ---- pairs

    public int goodCount() {
        return Integer.bitCount(state.needles.goodSet());
    }

    public int leastDifference() {
        return pairs.leastBySets(state.needles);
    }

    public int leastDifferenceByOrder() {
        return pairs.leastByStrengths(state.needles);
    }

    public int partnerOf(int needle) throws IndexOutOfBoundsException, NoSuchElementException {
        needNeedle(needle);
        int partner = pairs.lowestPartner(state.needles, needle);
        if (partner < 0) {
            throw new NoSuchElementException("the needle has no partner");
        }
        return partner;
    }

    // ---- oven

    public int addBatch(int minutes, int due, int weight) throws IllegalArgumentException, IllegalStateException {
        return modify(Change.BATCH, minutes, due, weight);
    }

    public int dropBatch(int batch) throws NoSuchElementException {
        return modify(Change.DROP, batch, 0, 0);
    }

    public int bake(int batch) throws NoSuchElementException {
        return modify(Change.BAKE, batch, 0, 0);
    }

    public int rest(int minutes) throws IllegalArgumentException {
        return modify(Change.REST, minutes, 0, 0);
    }

    public int clock() {
        return state.oven.clock;
    }

    public int batchCount() {
        return state.oven.count;
    }

    public int batchAt(int position) throws IndexOutOfBoundsException {
        if (position < 0 || position >= state.oven.count) {
            throw new IndexOutOfBoundsException("there is no such position");
        }
        return state.oven.ids[position];
    }

    public int latenessNow(int batch) throws NoSuchElementException {
        int place = state.oven.placeOf(batch);
        if (place < 0) {
            throw new NoSuchElementException("no batch with this id waits");
        }
        return state.oven.latenessFrom(place, state.oven.clock);
    }

    public int leastLateness() {
        return orders.leastBySets(state.oven);
    }

    public int leastLatenessByOrders() {
        return orders.leastByTrying(state.oven);
    }

    public int bestFirst() throws NoSuchElementException {
        int place = orders.bestFirstPlace(state.oven);
        if (place < 0) {
            throw new NoSuchElementException("no batch waits");
        }
        return state.oven.ids[place];
    }

    public int latenessByIds() {
        return orders.latenessInOrderOfIds(state.oven);
    }

    public int bakedCount() {
        return state.oven.bakedCount;
    }

    public long latenessTotal() {
        return state.oven.latenessTotal;
    }

    public float bakingShare() throws ArithmeticException {
        if (state.oven.clock == 0) {
            throw new ArithmeticException("the clock is 0");
        }
        return (float) state.oven.bakedMinutes / (float) state.oven.clock;
    }

    // ---- label and programs

    public int writeLabel(int needle) throws IndexOutOfBoundsException {
        needNeedle(needle);
        Needles needles = state.needles;
        label.setLength(0);
        label.append(needle).append(':').append(needles.strengths[needle]);
        for (int heading = 0; heading < HEADINGS; heading++) {
            label.append(' ').append(needles.at(needle, heading));
        }
        if (needles.isOut(needle)) {
            label.append(" x");
        } else if (needles.isTooWide(needle)) {
            label.append(" ?");
        }
        return label.length();
    }

    public char labelAt(int index) throws IndexOutOfBoundsException {
        if (index < 0 || index >= label.length()) {
            throw new IndexOutOfBoundsException("there is no such character");
        }
        return label.charAt(index);
    }

    public int type(char character) throws IllegalArgumentException, IllegalStateException {
        if (outside(character, 32, 126)) {
            throw new IllegalArgumentException("the character is not from 32 to 126");
        }
        if (program.length >= MOST_CHARACTERS) {
            throw new IllegalStateException("the buffer is full");
        }
        program.append(character);
        return program.length;
    }

    public int execute() throws IllegalArgumentException, IllegalStateException {
        int commands = program.countCommands();
        if (commands < 0) {
            errorPosition = program.position;
            program.empty();
            throw new IllegalArgumentException("the program is malformed");
        }
        history.prepare(state);
        int performed = performProgram(commands);
        program.empty();
        if (performed < commands) {
            history.putBack(state);
            failedCommand = performed;
            throw new IllegalStateException("a command failed");
        }
        history.keepPrepared();
        return commands;
    }

    public int errorPosition() throws NoSuchElementException {
        if (errorPosition == NONE) {
            throw new NoSuchElementException("no program was malformed so far");
        }
        return errorPosition;
    }

    public int failedCommand() throws NoSuchElementException {
        if (failedCommand == NONE) {
            throw new NoSuchElementException("no command failed so far");
        }
        return failedCommand;
    }

    // ---- undo and snapshots

    public int undo() throws IllegalStateException {
        if (history.count == 0) {
            throw new IllegalStateException("nothing can be undone");
        }
        history.takeBack(state);
        return history.count;
    }

    public int save() {
        snapshot.copyFrom(state);
        hasSnapshot = true;
        return state.oven.clock;
    }

    public int restore() throws IllegalStateException {
        if (!hasSnapshot) {
            throw new IllegalStateException("there is no snapshot");
        }
        state.copyFrom(snapshot);
        history.forget();
        return state.oven.clock;
    }

    // ---- what the calls share

    private int modify(Change change, int first, int second, int third) {
        refuse(state.whyNot(change, first, second, third));
        history.prepare(state);
        history.keepPrepared();
        return state.perform(change, first, second, third);
    }

    /** Returns how many commands were performed before one was refused. */
    private int performProgram(int commands) {
        program.position = 0;
        for (int index = 0; index < commands; index++) {
            if (!program.readsCommand()) {
                return index;
            }
            Change change = program.change;
            int first = program.numbers[0];
            int second = program.numbers[1];
            int third = program.numbers[2];
            if (state.whyNot(change, first, second, third) != Refusal.NONE) {
                return index;
            }
            state.perform(change, first, second, third);
            program.position++;
        }
        return commands;
    }

    private void needNeedle(int needle) {
        if (!state.needles.has(needle)) {
            refuse(Refusal.NO_NEEDLE);
        }
    }

    private static void needCourse(int course) {
        if (outside(course, 0, COURSES - 1)) {
            throw new IllegalArgumentException("there is no such course");
        }
    }

    private static int found(int course) {
        if (course < 0) {
            throw new NoSuchElementException("the needle has this true course for no course");
        }
        return course;
    }

    private static void refuse(Refusal refusal) {
        switch (refusal) {
            case NO_NEEDLE:
                throw new IndexOutOfBoundsException("there is no such needle");
            case OUT_OF_RANGE:
                throw new IllegalArgumentException("a number is out of range");
            case DISCARDED:
                throw new IllegalStateException("the needle is discarded");
            case NO_ROOM:
                throw new IllegalStateException("there is no room for another one");
            case OFF_TABLE:
                throw new UnsupportedOperationException("a deviation would be out of range");
            case NO_BATCH:
                throw new NoSuchElementException("no batch with this id waits");
            default:
                break;
        }
    }

    private static boolean outside(int number, int least, int most) {
        return number < least || number > most;
    }

    private static boolean holds(int set, int member) {
        return (set >> member & 1) != 0;
    }

    /** Why a modification cannot be made; a value and not an exception, so that execute can ask as well. */
    private enum Refusal {
        NONE, NO_NEEDLE, OUT_OF_RANGE, DISCARDED, NO_ROOM, OFF_TABLE, NO_BATCH
    }

    /** The modifications that a command can name, each with its form: D a digit, N a number, G degrees. */
    private enum Change {
        NEEDLE("needle N"),
        SET("set D D G"),
        SHIFT("shift D G"),
        CORRECT("correct D"),
        DISCARD("discard D"),
        LIMIT("limit N"),
        BATCH("batch N/N D"),
        DROP("drop N"),
        BAKE("bake N"),
        REST("rest N");

        private final String form;

        Change(String form) {
            this.form = form;
        }
    }

    /** All that undo and restore bring back. */
    private static final class State {
        private final Needles needles = new Needles();
        private final Oven oven = new Oven();

        private void copyFrom(State other) {
            needles.copyFrom(other.needles);
            oven.copyFrom(other.oven);
        }

        private Refusal whyNot(Change change, int first, int second, int third) {
            switch (change) {
                case NEEDLE:
                    return needles.whyNotAdd(first);
                case SET:
                    return needles.whyNotPut(first, second, third);
                case SHIFT:
                    return needles.whyNotShift(first, second);
                case CORRECT:
                    return needles.whyNotCorrect(first);
                case DISCARD:
                    return needles.whyNotThrowOut(first);
                case LIMIT:
                    return outside(first, 0, MOST_TOLERANCE) ? Refusal.OUT_OF_RANGE : Refusal.NONE;
                case BATCH:
                    return oven.whyNotAdd(first, second, third);
                case DROP:
                case BAKE:
                    return oven.placeOf(first) < 0 ? Refusal.NO_BATCH : Refusal.NONE;
                default:
                    return outside(first, 1, MOST_MINUTES) ? Refusal.OUT_OF_RANGE : Refusal.NONE;
            }
        }

        /** To be called only where whyNot answers Refusal.NONE. */
        private int perform(Change change, int first, int second, int third) {
            switch (change) {
                case NEEDLE:
                    return needles.add(first);
                case SET:
                    return needles.put(first, second, third);
                case SHIFT:
                    needles.move(first, second);
                    return needles.errorShiftedBy(first, 0);
                case CORRECT:
                    return needles.moveByBest(first);
                case DISCARD:
                    return needles.throwOut(first);
                case LIMIT:
                    needles.tolerance = first;
                    return needles.countTooWide();
                case BATCH:
                    return oven.add(first, second, third);
                case DROP:
                    oven.takeOut(oven.placeOf(first));
                    return oven.count;
                case BAKE:
                    return oven.finish(oven.placeOf(first));
                default:
                    oven.clock += first;
                    return oven.clock;
            }
        }
    }

    /** The needles with their tables; the methods that take a needle ask for one that exists. */
    private static final class Needles {
        private int count;
        private int tolerance = FIRST_TOLERANCE;
        private int discarded;
        private final int[] strengths = new int[MOST_NEEDLES];
        private final int[] deviations = new int[MOST_NEEDLES * HEADINGS];

        private void copyFrom(Needles other) {
            count = other.count;
            tolerance = other.tolerance;
            discarded = other.discarded;
            System.arraycopy(other.strengths, 0, strengths, 0, MOST_NEEDLES);
            System.arraycopy(other.deviations, 0, deviations, 0, MOST_NEEDLES * HEADINGS);
        }

        private boolean has(int needle) {
            return needle >= 0 && needle < count;
        }

        private int at(int needle, int heading) {
            return deviations[needle * HEADINGS + heading];
        }

        private boolean isOut(int needle) {
            return holds(discarded, needle);
        }

        private boolean isTooWide(int needle) {
            for (int heading = 0; heading < HEADINGS; heading++) {
                if (outside(at(needle, heading), -tolerance, tolerance)) {
                    return true;
                }
            }
            return false;
        }

        private int countTooWide() {
            int rejects = 0;
            for (int needle = 0; needle < count; needle++) {
                rejects += isTooWide(needle) ? 1 : 0;
            }
            return rejects;
        }

        private int goodSet() {
            int good = 0;
            for (int needle = 0; needle < count; needle++) {
                if (!isOut(needle) && !isTooWide(needle)) {
                    good |= 1 << needle;
                }
            }
            return good;
        }

        private Refusal whyNotAdd(int strength) {
            if (outside(strength, 1, MOST_STRENGTH)) {
                return Refusal.OUT_OF_RANGE;
            }
            return count >= MOST_NEEDLES ? Refusal.NO_ROOM : Refusal.NONE;
        }

        private int add(int strength) {
            strengths[count] = strength;
            for (int heading = 0; heading < HEADINGS; heading++) {
                deviations[count * HEADINGS + heading] = 0;
            }
            count++;
            return count - 1;
        }

        private Refusal whyNotPut(int needle, int heading, int degrees) {
            if (!has(needle)) {
                return Refusal.NO_NEEDLE;
            }
            if (outside(heading, 0, HEADINGS - 1) || outside(degrees, -MOST_DEVIATION, MOST_DEVIATION)) {
                return Refusal.OUT_OF_RANGE;
            }
            return isOut(needle) ? Refusal.DISCARDED : Refusal.NONE;
        }

        private int put(int needle, int heading, int degrees) {
            int previous = at(needle, heading);
            deviations[needle * HEADINGS + heading] = degrees;
            return previous;
        }

        private Refusal whyNotShift(int needle, int degrees) {
            if (!has(needle)) {
                return Refusal.NO_NEEDLE;
            }
            if (outside(degrees, -MOST_SHIFT, MOST_SHIFT)) {
                return Refusal.OUT_OF_RANGE;
            }
            return whyNotMove(needle, degrees);
        }

        private Refusal whyNotCorrect(int needle) {
            if (!has(needle)) {
                return Refusal.NO_NEEDLE;
            }
            return whyNotMove(needle, shiftFromSum(needle));
        }

        private Refusal whyNotMove(int needle, int degrees) {
            if (isOut(needle)) {
                return Refusal.DISCARDED;
            }
            for (int heading = 0; heading < HEADINGS; heading++) {
                if (outside(at(needle, heading) + degrees, -MOST_DEVIATION, MOST_DEVIATION)) {
                    return Refusal.OFF_TABLE;
                }
            }
            return Refusal.NONE;
        }

        private void move(int needle, int degrees) {
            for (int heading = 0; heading < HEADINGS; heading++) {
                deviations[needle * HEADINGS + heading] += degrees;
            }
        }

        private int moveByBest(int needle) {
            int best = shiftFromSum(needle);
            move(needle, best);
            return best;
        }

        private Refusal whyNotThrowOut(int needle) {
            if (!has(needle)) {
                return Refusal.NO_NEEDLE;
            }
            return isOut(needle) ? Refusal.DISCARDED : Refusal.NONE;
        }

        private int throwOut(int needle) {
            discarded |= 1 << needle;
            return Integer.bitCount(discarded);
        }

        private int interpolated(int needle, int course) {
            int heading = course / HEADING_STEP;
            int behind = course % HEADING_STEP;
            int weighted = at(needle, heading) * (HEADING_STEP - behind)
                    + at(needle, (heading + 1) % HEADINGS) * behind;
            return Math.floorDiv(weighted, HEADING_STEP);
        }

        private int corrected(int needle, int course) {
            return Math.floorMod(course + interpolated(needle, course), COURSES);
        }

        /** Returns NONE where no course has the wanted true course. */
        private int lowestCourse(int needle, int wanted) {
            for (int course = 0; course < COURSES; course++) {
                if (corrected(needle, course) == wanted) {
                    return course;
                }
            }
            return NONE;
        }

        /** No deviation is greater than MOST_DEVIATION, so the courses farther away cannot have the wanted one. */
        private int lowestNearbyCourse(int needle, int wanted) {
            int lowest = NONE;
            for (int away = -MOST_DEVIATION; away <= MOST_DEVIATION; away++) {
                int course = Math.floorMod(wanted + away, COURSES);
                boolean lower = lowest == NONE || course < lowest;
                if (lower && corrected(needle, course) == wanted) {
                    lowest = course;
                }
            }
            return lowest;
        }

        private int errorShiftedBy(int needle, int degrees) {
            int error = 0;
            for (int heading = 0; heading < HEADINGS; heading++) {
                int deviation = at(needle, heading) + degrees;
                error += deviation * deviation;
            }
            return error;
        }

        private int shiftByTrying(int needle) {
            int best = 0;
            int least = errorShiftedBy(needle, 0);
            // From 0 outwards, so that of equal errors the shift nearer to 0 stays.
            for (int size = 1; size <= MOST_BEST_SHIFT; size++) {
                for (int degrees = -size; degrees <= size; degrees += 2 * size) {
                    int error = errorShiftedBy(needle, degrees);
                    if (error < least) {
                        least = error;
                        best = degrees;
                    }
                }
            }
            return best;
        }

        /** The error is least at minus the mean of the deviations; a half is rounded to 0. */
        private int shiftFromSum(int needle) {
            int sum = 0;
            for (int heading = 0; heading < HEADINGS; heading++) {
                sum += at(needle, heading);
            }
            int size = (Math.abs(sum) + HEADINGS / 2 - 1) / HEADINGS;
            return sum > 0 ? -size : size;
        }

        private int countAheadOf(int needle) {
            int ahead = 0;
            for (int other = 0; other < count; other++) {
                ahead += isAhead(other, needle) ? 1 : 0;
            }
            return ahead;
        }

        private boolean isAhead(int one, int other) {
            int errorOfOne = errorShiftedBy(one, 0);
            int errorOfOther = errorShiftedBy(other, 0);
            if (errorOfOne != errorOfOther) {
                return errorOfOne < errorOfOther;
            }
            if (strengths[one] != strengths[other]) {
                return strengths[one] > strengths[other];
            }
            return one < other;
        }
    }

    /** Searches for pairings with the least difference; its rows are kept to be used again. */
    private static final class Pairs {
        private final int[] leastOfSet = new int[1 << MOST_NEEDLES];
        private final int[] ascending = new int[MOST_NEEDLES];

        private int leastBySets(Needles needles) {
            int good = needles.goodSet();
            leastOfSet[0] = 0;
            for (int set = 1; set <= good; set++) {
                if ((set & good) == set) {
                    leastOfSet[set] = leastForSet(needles, set);
                }
            }
            return leastOfSet[good];
        }

        /** Every pairing pairs the first needle of its set, or leaves it over, so no other start is tried. */
        private int leastForSet(Needles needles, int set) {
            int first = lowestOf(set);
            int others = set & ~(1 << first);
            boolean odd = Integer.bitCount(set) % 2 == 1;
            int least = odd ? leastOfSet[others] : BEYOND_ALL;
            for (int partner = first + 1; partner < MOST_NEEDLES; partner++) {
                if (holds(others, partner)) {
                    least = Math.min(least, withPair(needles, set, first, partner));
                }
            }
            return least;
        }

        private static int lowestOf(int set) {
            int lowest = 0;
            for (int needle = MOST_NEEDLES - 1; needle >= 0; needle--) {
                lowest = holds(set, needle) ? needle : lowest;
            }
            return lowest;
        }

        private int withPair(Needles needles, int set, int one, int other) {
            int rest = set & ~(1 << one) & ~(1 << other);
            return Math.abs(needles.strengths[one] - needles.strengths[other]) + leastOfSet[rest];
        }

        private int leastByStrengths(Needles needles) {
            int size = sortStrengths(needles);
            if (size % 2 == 0) {
                return differenceWithout(size, size);
            }
            int least = BEYOND_ALL;
            for (int left = 0; left < size; left++) {
                least = Math.min(least, differenceWithout(size, left));
            }
            return least;
        }

        private int sortStrengths(Needles needles) {
            int good = needles.goodSet();
            int size = 0;
            for (int needle = 0; needle < needles.count; needle++) {
                if (holds(good, needle)) {
                    int place = size;
                    while (place > 0 && ascending[place - 1] > needles.strengths[needle]) {
                        ascending[place] = ascending[place - 1];
                        place--;
                    }
                    ascending[place] = needles.strengths[needle];
                    size++;
                }
            }
            return size;
        }

        /** Pairs neighbours in the order of strengths, but leaves over the one at the place left. */
        private int differenceWithout(int size, int left) {
            int difference = 0;
            boolean open = false;
            for (int place = 0; place < size; place++) {
                if (place != left) {
                    difference += open ? ascending[place] : -ascending[place];
                    open = !open;
                }
            }
            return difference;
        }

        /** Returns NONE where the needle is in no pair. */
        private int lowestPartner(Needles needles, int needle) {
            int good = needles.goodSet();
            if (!holds(good, needle)) {
                return NONE;
            }
            int least = leastBySets(needles);
            for (int partner = 0; partner < needles.count; partner++) {
                boolean possible = partner != needle && holds(good, partner);
                if (possible && withPair(needles, good, needle, partner) == least) {
                    return partner;
                }
            }
            return NONE;
        }
    }

    /** The clock, the batches that wait, in the order of their ids, and the accounts of the baked ones. */
    private static final class Oven {
        private int clock;
        private int count;
        private int nextId;
        private int bakedCount;
        private int bakedMinutes;
        private long latenessTotal;
        private final int[] ids = new int[MOST_BATCHES];
        private final int[] minutes = new int[MOST_BATCHES];
        private final int[] dues = new int[MOST_BATCHES];
        private final int[] weights = new int[MOST_BATCHES];

        private void copyFrom(Oven other) {
            clock = other.clock;
            count = other.count;
            nextId = other.nextId;
            bakedCount = other.bakedCount;
            bakedMinutes = other.bakedMinutes;
            latenessTotal = other.latenessTotal;
            System.arraycopy(other.ids, 0, ids, 0, MOST_BATCHES);
            System.arraycopy(other.minutes, 0, minutes, 0, MOST_BATCHES);
            System.arraycopy(other.dues, 0, dues, 0, MOST_BATCHES);
            System.arraycopy(other.weights, 0, weights, 0, MOST_BATCHES);
        }

        /** Returns NONE where no batch with this id waits. */
        private int placeOf(int batch) {
            for (int place = 0; place < count; place++) {
                if (ids[place] == batch) {
                    return place;
                }
            }
            return NONE;
        }

        private int latenessFrom(int place, int start) {
            int past = start + minutes[place] - dues[place];
            return past > 0 ? weights[place] * past : 0;
        }

        private Refusal whyNotAdd(int baking, int due, int weight) {
            if (outside(baking, 1, MOST_MINUTES) || outside(due, 1, MOST_DUE) || outside(weight, 1, MOST_WEIGHT)) {
                return Refusal.OUT_OF_RANGE;
            }
            return count >= MOST_BATCHES ? Refusal.NO_ROOM : Refusal.NONE;
        }

        private int add(int baking, int due, int weight) {
            ids[count] = nextId;
            minutes[count] = baking;
            dues[count] = due;
            weights[count] = weight;
            count++;
            nextId++;
            return nextId - 1;
        }

        private void takeOut(int place) {
            count--;
            for (int next = place; next < count; next++) {
                ids[next] = ids[next + 1];
                minutes[next] = minutes[next + 1];
                dues[next] = dues[next + 1];
                weights[next] = weights[next + 1];
            }
        }

        private int finish(int place) {
            int lateness = latenessFrom(place, clock);
            clock += minutes[place];
            bakedCount++;
            bakedMinutes += minutes[place];
            latenessTotal += lateness;
            takeOut(place);
            return lateness;
        }
    }

    /** Searches for orders with the least lateness; its row is kept to be used again. */
    private static final class Orders {
        private final int[] leastOfSet = new int[1 << MOST_BATCHES];

        /** The least lateness of a set is that of baking it last, after all others, so that its start is known. */
        private int leastBySets(Oven oven) {
            int all = (1 << oven.count) - 1;
            int end = oven.clock + minutesOf(oven, all);
            leastOfSet[0] = 0;
            for (int set = 1; set <= all; set++) {
                int start = end - minutesOf(oven, set);
                int least = BEYOND_ALL;
                for (int place = 0; place < oven.count; place++) {
                    if (holds(set, place)) {
                        least = Math.min(least, beginningWith(oven, set, place, start));
                    }
                }
                leastOfSet[set] = least;
            }
            return leastOfSet[all];
        }

        private int beginningWith(Oven oven, int set, int place, int start) {
            return oven.latenessFrom(place, start) + leastOfSet[set & ~(1 << place)];
        }

        private static int minutesOf(Oven oven, int set) {
            int sum = 0;
            for (int place = 0; place < oven.count; place++) {
                if (holds(set, place)) {
                    sum += oven.minutes[place];
                }
            }
            return sum;
        }

        /** Returns NONE where no batch waits. */
        private int bestFirstPlace(Oven oven) {
            int least = leastBySets(oven);
            int all = (1 << oven.count) - 1;
            for (int place = 0; place < oven.count; place++) {
                if (beginningWith(oven, all, place, oven.clock) == least) {
                    return place;
                }
            }
            return NONE;
        }

        private int leastByTrying(Oven oven) {
            return bestFrom(oven, (1 << oven.count) - 1, oven.clock, 0, BEYOND_ALL, 0);
        }

        /** Returns the least lateness of the orders that go on from here, or best where none is below it. */
        private static int bestFrom(Oven oven, int waiting, int start, int lateness, int best, int depth) {
            if (lateness >= best || depth > MOST_BATCHES) {
                return best;
            }
            if (waiting == 0) {
                return lateness;
            }
            int least = best;
            for (int place = 0; place < oven.count; place++) {
                if (holds(waiting, place)) {
                    int later = lateness + oven.latenessFrom(place, start);
                    int end = start + oven.minutes[place];
                    least = bestFrom(oven, waiting & ~(1 << place), end, later, least, depth + 1);
                }
            }
            return least;
        }

        private int latenessInOrderOfIds(Oven oven) {
            int lateness = 0;
            int start = oven.clock;
            for (int place = 0; place < oven.count; place++) {
                lateness += oven.latenessFrom(place, start);
                start += oven.minutes[place];
            }
            return lateness;
        }
    }

    /** The buffer, and the reading of commands from it. */
    private static final class Program {
        private static final int MOST_NUMBERS = 3;
        private static final int MOST_DIGITS = 3;

        private final char[] text = new char[MOST_CHARACTERS];
        private int length;
        private int position;
        private Change change = Change.NEEDLE;
        private final int[] numbers = new int[MOST_NUMBERS];
        private int numberCount;

        private void append(char character) {
            text[length] = character;
            length++;
        }

        private void empty() {
            length = 0;
        }

        /** Returns NONE for a malformed program, with the position at its error. */
        private int countCommands() {
            position = 0;
            for (int commands = 1; commands <= MOST_CHARACTERS; commands++) {
                if (!readsCommand()) {
                    return NONE;
                }
                if (position == length) {
                    return commands;
                }
                if (!takesSign(';')) {
                    return NONE;
                }
            }
            return NONE;
        }

        /** Where no command stands, the position is the furthest that a form could be followed to. */
        private boolean readsCommand() {
            int start = position;
            int furthest = start;
            for (int index = 0; index < CHANGES.length; index++) {
                position = start;
                if (follows(CHANGES[index].form)) {
                    change = CHANGES[index];
                    return true;
                }
                furthest = Math.max(furthest, position);
            }
            position = furthest;
            return false;
        }

        private boolean follows(String form) {
            Arrays.fill(numbers, 0);
            numberCount = 0;
            for (int index = 0; index < form.length(); index++) {
                if (!takesPart(form.charAt(index))) {
                    return false;
                }
            }
            return true;
        }

        private boolean takesPart(char part) {
            switch (part) {
                case 'D':
                    return takesNumber(1, 1);
                case 'N':
                    return takesNumber(MOST_DIGITS, 1);
                case 'G':
                    return takesNumber(MOST_DIGITS, takesSign('-') ? -1 : 1);
                default:
                    return takesSign(part);
            }
        }

        private boolean takesSign(char sign) {
            if (position >= length || text[position] != sign) {
                return false;
            }
            position++;
            return true;
        }

        private boolean takesNumber(int mostDigits, int factor) {
            int value = 0;
            int digits = 0;
            while (digits < mostDigits && atDigit()) {
                value = value * 10 + (text[position] - '0');
                position++;
                digits++;
            }
            if (digits == 0 || numberCount >= MOST_NUMBERS) {
                return false;
            }
            numbers[numberCount] = value * factor;
            numberCount++;
            return true;
        }

        private boolean atDigit() {
            return position < length && text[position] >= '0' && text[position] <= '9';
        }
    }

    /** The states before the last modifications, in a ring with one room more than can be undone. */
    private static final class History {
        private static final int ROOMS = MOST_UNDOS + 1;

        private final State[] states = new State[ROOMS];
        private int first;
        private int count;

        private History() {
            for (int room = 0; room < ROOMS; room++) {
                states[room] = new State();
            }
        }

        /** Keeps a state aside, in the room that is free, until it is known whether it is needed. */
        private void prepare(State state) {
            states[(first + count) % ROOMS].copyFrom(state);
        }

        private void putBack(State state) {
            state.copyFrom(states[(first + count) % ROOMS]);
        }

        private void keepPrepared() {
            if (count < MOST_UNDOS) {
                count++;
            } else {
                first = (first + 1) % ROOMS;
            }
        }

        private void takeBack(State state) {
            if (count > 0) {
                count--;
                putBack(state);
            }
        }

        private void forget() {
            count = 0;
        }
    }
}
