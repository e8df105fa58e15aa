/** The boundary sentences on the label and on programs: promises 42 to 47, and what the Terms say of programs. */
final class ProgramBoundaries extends Scenes {
    private static final String SIXTY = "rest 1;rest 1;rest 1;rest 1;rest 10;rest 10;rest 10;rest 010";

    private ProgramBoundaries() {
    }

    static void test() {
        writeLabel();
        labelAt();
        type();
        typeRefused();
        termsOfPrograms();
        termsOfCommands();
        termsOfNumbers();
        termsOfCalls();
        termsOfErrorPosition();
        execute();
        executeMalformed();
        executeFailing();
        errorPosition();
        failedCommand();
    }

    private static void writeLabel() {
        Sentence s = Sentence.of(42, "its number, \":\" and its strength, then for each heading a blank and the deviation, "
                + "and at last \" x\" if it is discarded, or \" ?\" if it is a reject and not discarded");
        NeedleBakery x = withNeedles(1, 99, 99, 99, 99, 99, 99, 99);
        s.due("the shortest", "0:1 0 0 0 0 0 0 0 0", () -> labelOf(x, 0));
        table(x, 7, -20, -20, -20, -20, -20, -20, -20, -20);
        s.due("the longest", "7:99 -20 -20 -20 -20 -20 -20 -20 -20 ?", () -> labelOf(x, 7));
        x.discard(7);
        s.due("both a reject and discarded", "7:99 -20 -20 -20 -20 -20 -20 -20 -20 x", () -> labelOf(x, 7));
        x.discard(0);
        s.due("discarded, no reject", "0:1 0 0 0 0 0 0 0 0 x", () -> labelOf(x, 0));
        table(x, 1, 10, -10);
        s.due("at the tolerance", "1:99 10 -10 0 0 0 0 0 0", () -> labelOf(x, 1));
        Sentence length = Sentence.of(42, "Returns the length of the label.");
        length.due("of the shortest", 19, () -> withNeedles(1).writeLabel(0));
        length.due("of the longest", 38, () -> x.writeLabel(7));
        Sentence example = Sentence.of(42, "as in \"2:40 0 5 -3 0 0 0 12 0 ?\".");
        NeedleBakery y = withNeedles(1, 2, 40);
        table(y, 2, 0, 5, -3, 0, 0, 0, 12, 0);
        example.due("the document's needle", "2:40 0 5 -3 0 0 0 12 0 ?", () -> labelOf(y, 2));
        Sentence replaces = Sentence.of(42, "in place of the label before");
        y.writeLabel(0);
        replaces.due("the first character", '0', () -> y.labelAt(0));
        replaces.due("the last character", '0', () -> y.labelAt(18));
        replaces.throwsDue("behind it, where the longer one was", INDEX, () -> y.labelAt(19));
    }

    private static void labelAt() {
        Sentence empty = Sentence.of(43, "Returns a character of the label, which is empty at first.");
        empty.throwsDue("of a new bakery", INDEX, () -> new NeedleBakery().labelAt(0));
        empty.throwsDue("with a needle, but no label", INDEX, () -> withNeedles(5).labelAt(0));
        Sentence index = Sentence.of(43, "`index`: index of the character, from 0");
        NeedleBakery x = withNeedles(5, 6);
        x.writeLabel(1);
        index.due("index 0", '1', () -> x.labelAt(0));
        index.due("index 1", ':', () -> x.labelAt(1));
        index.due("the last index", '0', () -> x.labelAt(18));
        Sentence s = Sentence.of(43, "Throws `IndexOutOfBoundsException` if there is no such character");
        s.refuses("index 0 of an empty label", INDEX, NeedleBakery::new, y -> y.labelAt(0));
        int length = lived().writeLabel(2);
        for (int wrong : new int[] {-1, length, Integer.MIN_VALUE, Integer.MAX_VALUE}) {
            s.refuses("index " + wrong + " of " + length, INDEX, Scenes::lived, y -> y.labelAt(wrong));
        }
    }

    private static void type() {
        Sentence most = Sentence.ofTerms("Characters are collected in a buffer of at most 60 characters.");
        Sentence returned = Sentence.of(44, "Returns the number of characters in the buffer.");
        NeedleBakery x = new NeedleBakery();
        for (int length = 1; length <= 60; length++) {
            int due = length;
            returned.due("the character number " + due, due, () -> x.type(SIXTY.charAt(due - 1)));
        }
        most.throwsDue("a sixty-first", STATE, () -> x.type('0'));
        most.due("a program of sixty characters", 8, () -> x.execute());
        most.due("the clock after it", 44, () -> x.clock());
        returned.due("the first of the next program", 1, () -> x.type('r'));
    }

    private static void typeRefused() {
        Sentence range = Sentence.of(44, "Throws `IllegalArgumentException` if the character is not from 32 to 126");
        for (int code : new int[] {0, 10, 31, 127, 128, 255, 32 + 256, 65535}) {
            range.refuses("type of " + code, ARGUMENT, Scenes::lived, x -> x.type((char) code));
            range.refuses("type of " + code + " as a sixty-first", ARGUMENT, () -> typed(SIXTY), x -> x.type((char) code));
        }
        NeedleBakery y = new NeedleBakery();
        range.due("type of 32", 1, () -> y.type(' '));
        range.due("type of 126", 2, () -> y.type('~'));
        Sentence full = Sentence.of(44, "Throws `IllegalStateException` if the buffer contains 60 characters");
        full.refuses("a sixty-first", STATE, () -> typed(SIXTY), x -> x.type(';'));
        full.due("a sixtieth", 60, () -> typed(SIXTY.substring(1)).type(';'));
    }

    private static void runs(Sentence s, String text, int commands) {
        s.due("\"" + text + "\"", commands, () -> run(manySided(), text));
    }

    private static void breaks(Sentence s, String text, int position) {
        NeedleBakery x = manySided();
        s.throwsDue("\"" + text + "\"", ARGUMENT, () -> run(x, text));
        s.due("the error position of \"" + text + "\"", position, () -> x.errorPosition());
    }

    private static void fails(Sentence s, String text, int command) {
        NeedleBakery x = manySided();
        s.throwsDue("\"" + text + "\"", STATE, () -> run(x, text));
        s.due("the failed command of \"" + text + "\"", command, () -> x.failedCommand());
        s.throwsDue("no error position of \"" + text + "\"", NO_ELEMENT, () -> x.errorPosition());
    }

    /** Makes a bakery in which every command can succeed. */
    private static NeedleBakery manySided() {
        NeedleBakery x = withNeedles(40, 50);
        x.addBatch(10, 20, 3);
        x.addBatch(10, 20, 3);
        return x;
    }

    private static void termsOfPrograms() {
        Sentence s = Sentence.ofTerms("program = command { \";\" command }");
        runs(s, "rest 1", 1);
        runs(s, "rest 1;rest 2", 2);
        runs(s, "drop 0;drop 1;rest 1;rest 1;rest 1;rest 1;rest 1;rest 1", 8);
        breaks(s, "", 0);
        breaks(s, ";", 0);
        breaks(s, ";rest 1", 0);
        breaks(s, "rest 1;", 7);
        breaks(s, "rest 1;;rest 1", 7);
        breaks(s, "rest 1; rest 1", 7);
        breaks(s, "rest 1 ;rest 1", 6);
        breaks(s, "rest 1rest 1", 6);
        breaks(s, " rest 1", 0);
        breaks(s, "rest 1 ", 6);
        breaks(s, "rest 1,rest 1", 6);
    }

    private static void termsOfCommands() {
        commandIs("command = \"needle \" number", "needle 1", 7);
        commandIs("\"set \" digit \" \" digit \" \" degrees", "set 0 7 -2", 3);
        commandIs("\"shift \" digit \" \" degrees", "shift 1 2", 5);
        commandIs("\"correct \" digit", "correct 1", 8);
        commandIs("\"discard \" digit", "discard 0", 8);
        commandIs("\"limit \" number", "limit 0", 6);
        commandIs("\"batch \" number \"/\" number \" \" digit", "batch 1/999 9", 6);
        commandIs("\"drop \" number", "drop 1", 5);
        commandIs("\"bake \" number", "bake 0", 5);
        commandIs("\"rest \" number", "rest 6", 5);
        breaks(Sentence.ofTerms("command = \"needle \" number"), "needle -1", 7);
        Sentence set = Sentence.ofTerms("\"set \" digit \" \" digit \" \" degrees");
        breaks(set, "set 00 0 0", 5);
        breaks(set, "set 0 00 0", 7);
        breaks(set, "set 0 0", 7);
        breaks(set, "set 0 0 ", 8);
        breaks(set, "set  0 0 0", 4);
        breaks(set, "set -0 0 0", 4);
        breaks(set, "set 0 -0 0", 6);
        Sentence shift = Sentence.ofTerms("\"shift \" digit \" \" degrees");
        breaks(shift, "shift 10 0", 7);
        breaks(shift, "shift 1-1", 7);
        Sentence batch = Sentence.ofTerms("\"batch \" number \"/\" number \" \" digit");
        breaks(batch, "batch 1 1 1", 7);
        breaks(batch, "batch 1/1/1", 9);
        breaks(batch, "batch 1/1 12", 11);
        breaks(batch, "batch 1/1 -", 10);
        breaks(batch, "batch /1 1", 6);
        breaks(batch, "batch 1/ 1", 8);
        breaks(batch, "batch -1/1 1", 6);
        breaks(batch, "batch 1/-1 1", 8);
        breaks(Sentence.ofTerms("\"correct \" digit"), "correct 10", 9);
        breaks(Sentence.ofTerms("\"discard \" digit"), "discard 10", 9);
        breaks(Sentence.ofTerms("\"limit \" number"), "limit -1", 6);
        breaks(Sentence.ofTerms("\"drop \" number"), "drop -1", 5);
        breaks(Sentence.ofTerms("\"bake \" number"), "bake -1", 5);
        breaks(Sentence.ofTerms("\"rest \" number"), "rest -1", 5);
    }

    /** The command runs, also as a first and as a last one; each beginning of it is too short, and other signs break it. */
    private static void commandIs(String words, String command, int word) {
        Sentence s = Sentence.ofTerms(words);
        runs(s, command, 1);
        runs(s, command + ";rest 1", 2);
        runs(s, "rest 1;" + command, 2);
        for (int length = 0; length < command.length(); length++) {
            String beginning = command.substring(0, length);
            breaks(s, beginning, length);
            if (length <= word) {
                breaks(s, beginning + "?", length);
                breaks(s, beginning + "~" + command.substring(length), length);
            }
        }
        breaks(s, Character.toUpperCase(command.charAt(0)) + command.substring(1), 0);
        breaks(s, command + "x", command.length());
        breaks(s, command + " ", command.length());
    }

    private static void termsOfNumbers() {
        Sentence number = Sentence.ofTerms("number  = one to three digits");
        breaks(number, "rest ", 5);
        runs(number, "rest 9", 1);
        runs(number, "rest 10", 1);
        runs(number, "rest 060", 1);
        breaks(number, "rest 0010", 8);
        breaks(number, "rest 1234", 8);
        breaks(number, "rest /", 5);
        breaks(number, "rest :", 5);
        breaks(number, "batch 0010/1 1", 9);
        breaks(number, "batch 1/0010 1", 11);
        runs(number, "batch 001/999 9", 1);
        fails(number, "needle 100", 0);
        fails(number, "needle 999", 0);
        fails(number, "needle 000", 0);
        Sentence degrees = Sentence.ofTerms("degrees = [ \"-\" ] number");
        runs(degrees, "set 0 0 0", 1);
        runs(degrees, "set 0 0 -0", 1);
        runs(degrees, "set 0 0 -020", 1);
        runs(degrees, "shift 0 020", 1);
        breaks(degrees, "set 0 0 -", 9);
        breaks(degrees, "set 0 0 --1", 9);
        breaks(degrees, "set 0 0 +1", 8);
        breaks(degrees, "set 0 0 - 1", 9);
        breaks(degrees, "set 0 0 -0001", 12);
        breaks(degrees, "shift 0 1-", 9);
        fails(degrees, "set 0 0 -21", 0);
        fails(degrees, "shift 0 -999", 0);
    }

    private static void termsOfCalls() {
        Sentence s = Sentence.ofTerms("The commands call addNeedle, setDeviation, shift, correct, discard, setTolerance, "
                + "addBatch with the baking minutes, the due minute and the weight, dropBatch, bake and rest.");
        s.due("needle", 99, () -> after("needle 99").strengthOf(2));
        s.due("set", " 0 0 0 0 0 0 0 -20", () -> tableOf(after("set 0 7 -20"), 0));
        s.due("set -0", " 0 0 0 0 0 0 0 0", () -> tableOf(after("set 0 7 -0"), 0));
        s.due("shift", " -5 -5 -5 -5 -5 -5 -5 -5", () -> tableOf(after("shift 1 -5"), 1));
        s.due("correct", " 0 0 0 0 0 0 0 0", () -> tableOf(after("shift 1 -5;correct 1"), 1));
        s.due("discard", true, () -> after("discard 1").isDiscarded(1));
        s.due("limit", 0, () -> after("limit 0").tolerance());
        NeedleBakery x = after("batch 60/1 9");
        s.due("batch", 59 * 9, () -> x.latenessNow(2));
        s.due("drop", 1, () -> after("drop 0").batchAt(0));
        NeedleBakery y = after("bake 1");
        s.due("bake", 1, () -> y.bakedCount());
        s.due("bake, minutes", 10, () -> y.clock());
        s.due("rest", 60, () -> after("rest 60").clock());
        for (String command : new String[] {"needle 0", "needle 100", "set 2 0 0", "set 0 8 0", "set 0 0 21", "shift 2 0",
            "shift 0 41", "shift 0 -41", "shift 0 21", "correct 2", "discard 2", "limit 21", "batch 0/1 1", "batch 61/1 1",
            "batch 1/0 1", "batch 1/1 0", "drop 2", "bake 2", "rest 0", "rest 61"}) {
            fails(s, command, 0);
            fails(s, "rest 1;" + command + ";rest 0", 1);
        }
        fails(s, "discard 1;set 1 0 0", 1);
        fails(s, "discard 1;shift 1 0", 1);
        fails(s, "discard 1;correct 1", 1);
        fails(s, "discard 1;discard 1", 1);
        fails(s, "bake 0;bake 0", 1);
        String sixNeedles = "needle 1;needle 1;needle 1;needle 1;needle 1;needle 1";
        runs(s, sixNeedles, 6);
        NeedleBakery z = manySided();
        z.addNeedle(1);
        s.throwsDue("a ninth needle", STATE, () -> run(z, sixNeedles));
        s.due("its index", 5, () -> z.failedCommand());
        String fiveBatches = "batch 1/1 1;batch 1/1 1;batch 1/1 1;batch 1/1 1;batch 1/1 1";
        runs(s, fiveBatches, 5);
        z.addBatch(1, 1, 1);
        s.throwsDue("an eighth batch", STATE, () -> run(z, fiveBatches));
        s.due("its index too", 4, () -> z.failedCommand());
    }

    private static NeedleBakery after(String program) {
        NeedleBakery x = manySided();
        run(x, program);
        return x;
    }

    private static void termsOfErrorPosition() {
        Sentence s = Sentence.ofTerms("The error position of a malformed program is the index of the first character that cannot "
                + "continue any program, or the length of the text if it ends too early.");
        breaks(s, "", 0);
        breaks(s, "x", 0);
        breaks(s, "s", 1);
        breaks(s, "sx", 1);
        breaks(s, "b", 1);
        breaks(s, "ba", 2);
        breaks(s, "bax", 2);
        breaks(s, "bat", 3);
        breaks(s, "bakx", 3);
        breaks(s, "d", 1);
        breaks(s, "dx", 1);
        breaks(s, "dix", 2);
        breaks(s, "drx", 2);
        breaks(s, "needle", 6);
        breaks(s, "needle ", 7);
        breaks(s, "drop 9;x", 7);
        breaks(s, "drop 9;drop 0;bake", 18);
        breaks(s, SIXTY.substring(0, 59) + ";", 60);
        breaks(s, SIXTY.substring(0, 59) + "x", 59);
        breaks(s, SIXTY.substring(0, 54) + "needle", 54);
    }

    private static void execute() {
        Sentence count = Sentence.of(45, "Returns the number of commands.");
        count.due("one", 1, () -> run(new NeedleBakery(), "rest 1"));
        count.due("eight", 8, () -> run(new NeedleBakery(), SIXTY));
        Sentence all = Sentence.of(45, "Executes the program in the buffer, all commands of it or none, and empties the buffer.");
        NeedleBakery x = manySided();
        all.due("a program", 3, () -> run(x, "rest 1;needle 5;limit 0"));
        all.due("the last command of it", 0, () -> x.tolerance());
        all.due("the buffer after it", 1, () -> x.type('r'));
        String before = picture(x);
        all.throwsDue("a failing last command", STATE, () -> run(x, "est 5;bake 0;discard 0;set 2 3 7;batch 9/9 9;rest 61"));
        all.due("the state after it", before, () -> picture(x));
        all.due("the id that is given next", 2, () -> x.addBatch(1, 1, 1));
        all.throwsDue("the buffer after it, which is empty", ARGUMENT, () -> x.execute());
        all.due("the error position of the empty buffer", 0, () -> x.errorPosition());
        all.due("the buffer after a malformed program", 1, () -> x.type('r'));
    }

    private static NeedleBakery livedWith(String program) {
        NeedleBakery x = lived();
        Check.answerOf(() -> x.execute());
        x.undo();
        typeAll(x, program);
        return x;
    }

    private static void leavesTheRest(Sentence s, String program, NeedleBakery x) {
        s.due("the label after \"" + program + "\"", Reading.label(lived()), () -> Reading.label(x));
        s.due("the state after \"" + program + "\"", Reading.state(livedWith("")), () -> Reading.state(x));
        s.due("the buffer after \"" + program + "\"", 1, () -> x.type('x'));
    }

    private static void executeMalformed() {
        Sentence s = Sentence.of(45, "Throws `IllegalArgumentException` if the program is malformed; its error position is stored");
        Object[][] programsAndDue = {{"rest 2;needle 5;", 16}, {"drop 99;rest", 12}, {"rest 0 ", 6}, {"~", 0}};
        for (Object[] row : programsAndDue) {
            String program = (String) row[0];
            NeedleBakery x = livedWith(program);
            s.throwsDue("\"" + program + "\"", ARGUMENT, () -> x.execute());
            s.due("the error position of \"" + program + "\"", row[1], () -> x.errorPosition());
            s.due("the failed command after \"" + program + "\"", 1, () -> x.failedCommand());
            leavesTheRest(s, program, x);
        }
        NeedleBakery y = livedWith("bake 1;;");
        s.throwsDue("malformed", ARGUMENT, () -> y.execute());
        s.due("its error position", 7, () -> y.errorPosition());
        NeedleBakery z = livedWith("drop 99;x");
        s.throwsDue("malformed behind a command that would fail", ARGUMENT, () -> z.execute());
        s.due("the failed command is that of before", 1, () -> z.failedCommand());
    }

    private static void executeFailing() {
        Sentence s = Sentence.of(45,
                "Throws `IllegalStateException` if the method of a command throws an exception; the index of the command is stored");
        Object[][] programsAndDue = {{"drop 99", 0}, {"rest 2;needle 5;bake 1;shift 2 1", 3}, {"rest 0;rest 0", 0},
            {"discard 0;set 0 0 0", 1}};
        for (Object[] row : programsAndDue) {
            String program = (String) row[0];
            NeedleBakery x = livedWith(program);
            s.throwsDue("\"" + program + "\"", STATE, () -> x.execute());
            s.due("the failed command of \"" + program + "\"", row[1], () -> x.failedCommand());
            s.due("the error position after \"" + program + "\"", 4, () -> x.errorPosition());
            leavesTheRest(s, program, x);
        }
        NeedleBakery y = livedWith("rest 1;rest 1;rest 1;rest 1;rest 1;rest 1;rest 1;rest 0");
        s.throwsDue("the eighth fails", STATE, () -> y.execute());
        s.due("its index", 7, () -> y.failedCommand());
    }

    private static void errorPosition() {
        Sentence last = Sentence.of(46, "Returns the error position of the last malformed program.");
        NeedleBakery x = new NeedleBakery();
        Check.answerOf(() -> run(x, "rest "));
        last.due("of the first", 5, () -> x.errorPosition());
        Check.answerOf(() -> run(x, "r1"));
        last.due("of the second", 1, () -> x.errorPosition());
        run(x, "rest 1");
        Check.answerOf(() -> run(x, "rest 0"));
        last.due("after programs that were not malformed", 1, () -> x.errorPosition());
        Check.answerOf(() -> x.execute());
        last.due("of an empty one", 0, () -> x.errorPosition());
        Sentence none = Sentence.of(46, "Throws `NoSuchElementException` if no program was malformed so far");
        none.refuses("of a new bakery", NO_ELEMENT, NeedleBakery::new, y -> y.errorPosition());
        NeedleBakery z = typed("rest 0");
        Check.answerOf(() -> z.execute());
        run(z, "rest 1");
        none.throwsDue("after a failing and a right one", NO_ELEMENT, () -> z.errorPosition());
        none.throwsDue("with a buffer that would be malformed", NO_ELEMENT, () -> typed("x").errorPosition());
    }

    private static void failedCommand() {
        Sentence from = Sentence.of(47, "Returns the index in its program, from 0.");
        Sentence last = Sentence.of(47, "Returns the index of the last command that failed.");
        NeedleBakery x = new NeedleBakery();
        Check.answerOf(() -> run(x, "rest 1;rest 1;rest 1;rest 1;rest 1;rest 1;rest 1;rest 0"));
        from.due("the eighth", 7, () -> x.failedCommand());
        Check.answerOf(() -> run(x, "rest 0;rest 0"));
        from.due("the first", 0, () -> x.failedCommand());
        Check.answerOf(() -> run(x, "rest 1;rest 61"));
        last.due("the second", 1, () -> x.failedCommand());
        run(x, "rest 1");
        Check.answerOf(() -> run(x, "rest 0;x"));
        Check.answerOf(() -> x.rest(0));
        last.due("after what is no failing command", 1, () -> x.failedCommand());
        Sentence none = Sentence.of(47, "Throws `NoSuchElementException` if no command failed so far");
        none.refuses("of a new bakery", NO_ELEMENT, NeedleBakery::new, y -> y.failedCommand());
        NeedleBakery z = typed("rest 0;x");
        Check.answerOf(() -> z.execute());
        Check.answerOf(() -> z.rest(0));
        run(z, "rest 1");
        none.throwsDue("after a malformed program and a refused call", NO_ELEMENT, () -> z.failedCommand());
    }
}
