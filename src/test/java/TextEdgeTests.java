/** The boundary cases of the promises 29 to 37, sentence by sentence: texts, reasons, lines and quotients. */
public final class TextEdgeTests {
    private static final int MIN = TestRun.MIN;
    private static final int MAX = TestRun.MAX;
    private static final String DIGITS = "0123456789";

    /** A text of each kind of command. */
    private static final String[] COMMANDS = {"b", "s00@1*1", "r00*1", "u00@1*2", "d00@1*2", "x00", "q010", "e011",
        "c0>2", "n"};
    private static final String LETTERS = "bsrudxqecn";

    private TextEdgeTests() {
    }

    public static void main(String[] args) {
        append();
        appendFull();
        commandsOneByOne();
        commandsCount();
        commandsAllOrNone();
        commandsEmptyBuffer();
        commandsRefused();
        commandsChange();
        faultsByPlace();
        faultsEarly();
        faultsOfTexts();
        faultsOfTheLatest();
        reason();
        reasonOutside();
        line();
        lineOutside();
        staff();
        staffOutside();
        character();
        meanSteps();
        fullShare();
        TestSentence.finish(29, 37);
    }

    private static TestRun three() {
        return TestRun.after(TestRun.bars(3));
    }

    private static TestRun eight() {
        return TestRun.after(TestRun.bars(8));
    }

    /** Three bars with signs, a quarrel, a coda, a snapshot, a line, a reason, a fault and a text. */
    private static TestRun lively() {
        return three().and("step(0, 0, 1, 4)", "stair(0, 0, 1, 2, true)", "save()", "rest(0, 0, 1)", "quarrel(0, 3, 0)",
                "!noCoda()", "coda(0, 2)", "!b;", "line(0, 0)");
    }

    // ---- promise 29 ----

    private static void append() {
        TestSentence.sentence(29, "Returns the new length of the buffer.");
        TestRun house = TestRun.after();
        for (int length = 0; length < 60; length++) {
            house.answers("append(98)", length + 1);
            house = house.and("append(" + 7 * length + ")");
        }
        house.answers("account(10)", 60);
        TestSentence.sentence(29, "Appends a character to the text buffer.");
        three().and(TestRun.typed("c0>2")).answers("commands()", 1).and("commands()").answers("account(7)", 2);
        three().answersEach("append(#)", 1, 0, 1, 32, 127, 128, 255, 256, 65535).and("append(0)")
                .answers("append(98)", 2);
        three().and("append(98)", "append(65535)").throwing("character(0)", TestRun.INDEX);
        TestSentence.sentence(29,
                "The text buffer, the fault position, the reason and the line do not belong to it, and stay.");
        three().and("append(98)", "undo()").answers("append(98)", 2).and("append(98)").answers("commands()",
                "throws.IllegalArgumentException");
        three().and("save()", "append(98)", "restore()").answers("append(98)", 2).answers("commands()", 1);
    }

    private static void appendFull() {
        TestSentence.sentence(29, "Throws `IllegalStateException` if the buffer contains 60 characters");
        TestRun most = lively().and(TestRun.typed("b;b".repeat(19))).and(TestRun.typed("q0"));
        most.answers("append(49)", 60);
        TestRun full = most.and("append(49)");
        full.throwingEach("append(#)", TestRun.STATE, 48, 0, 59, 98, 255, 65535).answers("account(10)", 60);
        TestRun text = TestRun.after(TestRun.typed("b;b;b;b;b;b;b;b;c0>7;n;c0>7;n;c0>7;n;c0>7;n;c0>7;n;q010;e018"));
        text.and("!append(59)", "!append(98)").answers("commands()", 20);
        full.and("!commands()").answers("append(98)", 1);
    }

    // ---- promise 30 ----

    private static void commandsOneByOne() {
        TestRun house = lively().and("quarrel(1, 2, 1)");
        TestSentence.sentence(30, "\"b\" adds a bar");
        house.doesAs("b", "bar()");
        eight().doesAs("b", "bar()");
        TestSentence.sentence(30, "\"s\", a sister, a bar, \"@\" and a floor, \"*\" and a length adds a step");
        eachDigit(house, "s##@#*#", "step(#, #, #, #)", 0, 2, 4, 3);
        eachDigit(house, "s##@#*#", "step(#, #, #, #)", 0, 0, 2, 1);
        TestSentence.sentence(30, "\"r\", a sister, a bar, \"*\" and a length adds a rest");
        eachDigit(house, "r##*#", "rest(#, #, #)", 0, 0, 1);
        TestSentence.sentence(30,
                "\"u\" or \"d\", a sister, a bar, \"@\" and a floor, \"*\" and a length adds a stair up or down");
        eachDigit(house, "u##@#*#", "stair(#, #, #, #, true)", 1, 2, 3, 4);
        eachDigit(house, "d##@#*#", "stair(#, #, #, #, false)", 1, 2, 1, 2);
        TestSentence.sentence(30, "\"x\", a sister and a bar takes her last sign there away");
        eachDigit(house, "x##", "takeBack(#, #)", 0, 0);
        TestSentence.sentence(30, "\"q\", a sister, a sister, and a bar lets them quarrel from it on");
        eachDigit(house, "q###", "quarrel(#, #, #)", 1, 3, 2);
        eachDigit(house, "q###", "quarrel(#, #, #)", 3, 0, 0);
        TestSentence.sentence(30, "\"e\", a sister, a sister, and a bar ends the quarrel in it");
        eachDigit(house, "e###", "end(#, #, #)", 2, 1, 2);
        eachDigit(house, "e###", "end(#, #, #)", 0, 3, 8);
        TestSentence.sentence(30, "\"c\", a bar, \">\" and a bar tells the coda");
        eachDigit(eight(), "c#>#", "coda(#, #)", 3, 7);
        eachDigit(house, "c#>#", "coda(#, #)", 0, 2);
        TestSentence.sentence(30, "\"n\" takes it away");
        house.doesAs("n", "noCoda()");
        three().doesAs("n", "noCoda()");
    }

    /** The text does what the call does, whichever digit stands in place of one of the numbers. */
    private static void eachDigit(TestRun house, String text, String call, int... numbers) {
        for (int place = 0; place < numbers.length; place++) {
            for (int digit = 0; digit < 10; digit++) {
                int[] told = numbers.clone();
                told[place] = digit;
                house.doesAs(filled(text, told), filled(call, told));
            }
        }
    }

    private static String filled(String form, int... numbers) {
        String text = form;
        for (int number : numbers) {
            text = text.replaceFirst("#", "" + number);
        }
        return text;
    }

    private static void commandsCount() {
        TestSentence.sentence(30, "Returns the number of commands.");
        TestRun.after().tells("b", 1).tells("b;b", 2).tells(TestRun.bars(8), 8);
        for (String command : COMMANDS) {
            three().and("step(0, 0, 1, 1)", command.equals("n") ? "coda(0, 2)" : "step(0, 0, 1, 1)",
                    command.startsWith("e") ? "quarrel(0, 1, 0)" : "step(1, 1, 1, 1)").tells(command, 1);
        }
        String longest = "b;b;b;b;b;b;b;b;c0>7;n;c0>7;n;c0>7;n;c0>7;n;c0>7;n;q010;e018";
        TestKit.due("the length of the longest text", longest.length(), 60);
        TestRun.after().tells(longest, 20).and(longest).answers("account(0)", 8).answers("account(4)", 1)
                .answers("account(7)", -1).answers("account(9)", 1).answersEach("key(#)", 1, 0, 7);
        TestSentence.sentence(30, "Carries out the commands in the text buffer, one after the other");
        TestRun.after("b;b;b;s02@1*4;u02@1*2;r02*2;x02;q230;e231;c0>2")
                .isAs(TestRun.after("b;b;b;s02@1*4;u02@1*2", "q230;e231;c0>2", "undo()", "undo()",
                        "b;b;b;s02@1*4;u02@1*2;r02*2;x02;q230;e231;c0>2"));
        TestRun.after("b;b;b;s02@1*4;u02@1*2;r02*2;x02;q230;e231;c0>2").holdsAs(three().and("step(0, 2, 1, 4)",
                "stair(0, 2, 1, 2, true)", "rest(0, 2, 2)", "takeBack(0, 2)", "quarrel(2, 3, 0)", "end(2, 3, 1)",
                "coda(0, 2)"));
        TestRun.after().refusesText("b;s00@1*4;s00@1*4;x00;x00;x00", 6, 0, 5);
    }

    private static void commandsAllOrNone() {
        TestSentence.sentence(30, "The commands are carried out as the methods would, all of them or none.");
        TestRun house = lively();
        house.refusesText("b;b;s13@0*1;q123;e128;x00;c1>4;c2>4;n;n", 12, 0, 9);
        house.refusesText("x00;x00;x00;x00", 6, 0, 3).refusesText("b;b;b;b;b;b", 2, 8, 5);
        house.refusesText("s00@0*1;s00@0*1", 4, 0, 1).refusesText("q120;q210", 8, 0, 1)
                .refusesText("e031;e030", 10, 0, 1);
        house.refusesText("n;n", 12, 0, 1).refusesText("u10@1*4;d10@0*4", 5, 0, 1).refusesText("b;c1>3;c2>3", 11, 3, 2);
        house.refusesText("r10*4;r10*4;r10*1", 4, 0, 2).refusesText("b;s03@0*1;s04@0*1", 3, 4, 2);
        house.and("undo()", "undo()").refusesText("b;n", 12, 0, 1);
        TestSentence.sentence(30, "if one is refused, none is carried out");
        house.refusesText("n;b;b;b;b;b;n", 12, 0, 6).refusesText("s49@9*9;b", 1, 0, 0);
        TestRun many = TestRun.after("b", "b", "b", "b", "b", "b", "b", "s00@1*1", "s00@2*1", "s00@3*1");
        many.refusesText("s00@1*1;b;q010;c0>2;x00;x00;x00;x00;x00", 6, 0, 8);
        TestSentence.sentence(30, "Throws `IllegalArgumentException` if the text has a fault");
        house.faulty("", 0).faulty("b;", 2).faulty("b;z", 2).faulty("bb", 1).faulty("b;s00@0*", 8);
        TestSentence.sentence(30, "If several conditions of a method are fulfilled, the one that is listed first "
                + "determines the exception.");
        house.faulty("b;n;n;", 6).faulty("s49@9*9;y", 8).faulty("x00;x00;x00;x00;x0", 18);
        three().faulty("n;", 2).faulty("n;z", 2).faulty("n ", 1);
    }

    private static void commandsEmptyBuffer() {
        TestSentence.sentence(30, "The buffer is empty afterwards, also if an exception is thrown.");
        TestRun[] texts = {three().and("b"), three().and("!b;"), three().and("!n"), three().and("!b;n;b"),
            three().and("!y")};
        for (TestRun told : texts) {
            told.answers("account(10)", 0).answers("append(98)", 1).and("append(98)").answers("commands()", 1);
            told.faulty("", 0).tells("b", 1);
        }
        String longest = "b;".repeat(30);
        three().and("!" + longest).answers("account(10)", 0).answers("append(98)", 1);
        three().and("!" + longest.substring(0, 59)).answers("account(10)", 0).answers("reason(2)", 5);
    }

    private static void commandsRefused() {
        TestSentence.sentence(30, "Throws `UnsupportedOperationException` if a command is refused; the reason is kept");
        TestRun house = lively();
        house.refusesText("s40@0*1", 1, 0, 0).refusesText("s09@0*1", 3, 3, 0).refusesText("s00@5*1", 1, 0, 0);
        house.refusesText("s00@0*0", 1, 0, 0).refusesText("s00@0*2", 4, 1, 0).refusesText("r00*2", 4, 1, 0);
        house.refusesText("u10@4*4", 5, 4, 0).refusesText("d10@0*2", 5, 0, 0).refusesText("x11", 6, 1, 0);
        house.refusesText("q220", 7, 2, 0).refusesText("q301", 8, 0, 0).refusesText("e120", 9, 0, 0);
        house.refusesText("e030", 10, 0, 0).refusesText("e039", 1, 0, 0).refusesText("c1>2", 11, 2, 0);
        eight().refusesText("b", 2, 8, 0).refusesText("n", 12, 0, 0).refusesText("c8>9", 3, 8, 0);
        TestSentence.sentence(30,
                "The reason is kept with the index of the command of a text, from 0, or 0 for another call.");
        eight().refusesText("c0>2;n;c0>2;n;c0>2;n;c0>2;n;c0>2;n;c0>2;n;c0>2;n;c0>2;n;n", 12, 0, 16);
        TestRun.after().refusesText(TestRun.bars(9), 2, 8, 8).refusesText("b;b;s02@0*1;n;n", 3, 2, 2);
        TestRun.after().refusesText(TestRun.bars(30), 2, 8, 8);
    }

    private static void commandsChange() {
        TestSentence.sentence(30, "What can be undone are the successful calls of bar, step, rest, stair, takeBack, "
                + "quarrel, end, coda, noCoda and commands.");
        three().and("b;b;s00@0*1;q010").answers("account(9)", 2).answers("undo()", 1).and("undo()").isAs(three());
        lively().and("b;x00;n").answers("undo()", 6);
        TestRun nine = TestRun.after("b", "b", "b", "b", "b", "b", "b", "b", "s00@0*1");
        nine.answers("account(9)", 8).and("!n").answers("account(9)", 8).and("!b;").answers("account(9)", 8);
    }

    // ---- promise 31 ----

    /** What can stand at a place of a command, or behind it. */
    private static String allowed(String command, int place) {
        if (place == 0) {
            return LETTERS;
        }
        if (place == command.length()) {
            return ";";
        }
        char character = command.charAt(place);
        return character >= '0' && character <= '9' ? DIGITS : "" + character;
    }

    private static void faultsByPlace() {
        TestSentence.sentence(31,
                "The fault position of a text is the index of its first character that cannot continue such a text");
        for (String command : COMMANDS) {
            for (int place = 0; place <= command.length(); place++) {
                for (int character = 0; character <= 300; character++) {
                    faultAt(command, place, (char) character);
                }
                for (char digit : DIGITS.toCharArray()) {
                    faultAt(command, place, (char) (digit + 0x0630));
                    faultAt(command, place, (char) (digit + 0xfee0));
                }
            }
        }
        TestSentence.sentence(31, "All numbers have one digit.");
        three().faultOf("s000@1*1", 3).faultOf("s00@01*1", 5).faultOf("s00@1*01", 7).faultOf("r00*10", 5)
                .faultOf("q0100", 4)
                .faultOf("c00>2", 2).faultOf("c0>02", 4).faultOf("x000", 3).faultOf("x-10", 1).faultOf("c0>-1", 3);
        three().faultOf("s99@9*9", -1).faultOf("q999", -1).faultOf("e999", -1).faultOf("c9>9", -1)
                .faultOf("u99@9*9", -1);
    }

    /** The character behind the first ones of the command, which are no fault. */
    private static void faultAt(String command, int place, char character) {
        String ahead = command.substring(0, place);
        boolean isFault = allowed(command, place).indexOf(character) < 0;
        String text = ahead + character;
        boolean isWhole = place == 0 ? "bn".indexOf(character) >= 0 : place == command.length() - 1;
        int behind = isWhole ? -1 : text.length();
        three().faultOf(text, isFault ? place : behind);
        if (isFault) {
            three().faultOf(text + ";b", place).faultOf("b;" + text, place + 2);
        }
    }

    private static void faultsEarly() {
        TestSentence.sentence(31, "or the length of the text if it ends too early");
        lively().faulty("", 0);
        for (String command : COMMANDS) {
            for (int length = 1; length < command.length(); length++) {
                three().faultOf(command.substring(0, length), length)
                        .faultOf("b;" + command.substring(0, length), length + 2);
            }
            three().faultOf(command + ";", command.length() + 1).faultOf(command, -1)
                    .faultOf("b;" + command + ";b", -1);
        }
        TestRun.after().faulty("b;".repeat(30), 60).faulty("b;".repeat(29) + "c0", 60)
                .faulty("b;".repeat(29) + "s", 59);
        TestRun.after().faultOf("b;".repeat(29) + "bb", 59).faultOf("b;".repeat(29) + "n", -1);
    }

    private static void faultsOfTexts() {
        TestSentence.sentence(31, "The text buffer holds one or more commands with \";\" between them");
        lively().faulty(";", 0).faulty(";b", 0).faulty("b;;b", 2).faulty("b;b;;", 4).faulty("b, b", 1).faulty(" b", 0)
                .faulty("b ", 1).faulty("b; b", 2).faulty("b:b", 1);
        lively().faulty("bn", 1).faulty("nb", 1).faulty("x00x00", 3).faulty("c0>2n", 4).faulty("s00@1*1r00*1", 7);
        TestSentence.sentence(31, "is the index of its first character that cannot continue such a text");
        lively().faulty("b;y;z", 2).faulty("s00@1*1;s00#1*1;s00", 11).faulty("q01;q01;", 3).faulty("e0a1b", 2)
                .faulty("B", 0);
        lively().faulty("u00^1*2", 3).faulty("d00@1^2", 5).faulty("r00@1*1", 3).faulty("c0<2", 2).faulty("c0-2", 2);
    }

    private static void faultsOfTheLatest() {
        TestSentence.sentence(31,
                "Returns the fault position, or -1 if that text had no fault or there was no such call.");
        three().answers("faultPosition()", -1);
        TestRun.after().answers("faultPosition()", -1).and(TestRun.typed("b;;")).answers("faultPosition()", -1);
        TestRun.after("!b;").answers("faultPosition()", 2).and("b").answers("faultPosition()", -1);
        TestRun.after("!b;").and("!n").answers("faultPosition()", -1);
        TestRun.after("!b;", "!").answers("faultPosition()", 0);
        TestSentence.sentence(31, "Returns the fault position of the text of the latest call of commands.");
        TestRun faulty = TestRun.after("b", "save()", "!b;b z");
        faulty.answers("faultPosition()", 3).and(TestRun.typed("b;y")).answers("faultPosition()", 3);
        faulty.and("bar()", "!noCoda()", "!step(9, 9, 9, 9)").answers("faultPosition()", 3);
        faulty.and("!y").answers("faultPosition()", 0);
        TestSentence.sentence(31,
                "The text buffer, the fault position, the reason and the line do not belong to it, and stay.");
        faulty.and("undo()").answers("faultPosition()", 3).and("restore()").answers("faultPosition()", 3);
        TestRun.after("b", "!y", "b", "undo()").answers("faultPosition()", -1);
        TestRun.after("b", "!y", "save()", "b", "restore()").answers("faultPosition()", -1);
        TestSentence.sentence(31, "What can be undone are the successful calls of bar, step, rest, stair, takeBack, "
                + "quarrel, end, coda, noCoda and commands.");
        lively().leavesAll("faultPosition()");
    }

    // ---- promise 32 ----

    private static void reason() {
        TestSentence.sentence(32, "0 for the reason, 1 for its detail, 2 for the index of the command");
        eight().and("!b").answersRow("reason(#)", 2, 8, 0);
        TestRun.after("b", "!b;b;b;x02").answersRow("reason(#)", 6, 2, 3);
        TestRun.after("b", "!b;b;b;x02", "!n").answersRow("reason(#)", 12, 0, 0);
        TestSentence.sentence(32, "or 0 for another call");
        TestRun refused = TestRun.after("b", "!b;b;b;x02");
        refused.and("!takeBack(0, 0)").answersRow("reason(#)", 6, 0, 0);
        refused.and("!noCoda()").answersRow("reason(#)", 12, 0, 0);
        refused.and("!step(0, 1, 0, 1)").answersRow("reason(#)", 3, 1, 0);
        refused.and("!quarrel(3, 3, 0)").answersRow("reason(#)", 7, 3, 0);
        refused.and("!end(3, 2, 0)").answersRow("reason(#)", 9, 0, 0);
        refused.and("!coda(0, 0)").answersRow("reason(#)", 11, 1, 0);
        refused.and("!rest(0, 0, 5)").answersRow("reason(#)", 1, 0, 0);
        refused.and("!stair(0, 0, 4, 2, true)").answersRow("reason(#)", 5, 4, 0);
        refused.and(TestRun.bars(7), "!bar()").answersRow("reason(#)", 2, 8, 0);
        TestSentence.sentence(32, "If nothing else is told, the detail is 0.");
        eight().and("!bar()", "!step(4, 7, 0, 1)").answersRow("reason(#)", 1, 0, 0);
        eight().and("!bar()", "!end(0, 1, 7)").answersRow("reason(#)", 9, 0, 0);
        eight().and("!bar()", "!noCoda()").answersRow("reason(#)", 12, 0, 0);
        TestSentence.sentence(32, "Returns a number of the reason that is kept.");
        refused.and("b", "step(0, 0, 0, 1)", "!floorAt(4, 0, 0)", "!y", "!reason(3)").answersRow("reason(#)", 6, 2, 3);
        refused.and("!played(9)", "!restore()", "!ranked(4, 0)", "!character(0)").answersRow("reason(#)", 6, 2, 3);
        TestSentence.sentence(32,
                "The text buffer, the fault position, the reason and the line do not belong to it, and stay.");
        refused.and("save()", "undo()").answersRow("reason(#)", 6, 2, 3).and("restore()")
                .answersRow("reason(#)", 6, 2, 3);
        TestRun.after("save()", "b", "!n", "undo()").answersRow("reason(#)", 12, 0, 0);
        TestRun.after("save()", "b", "!n", "restore()").answersRow("reason(#)", 12, 0, 0);
    }

    private static void reasonOutside() {
        TestSentence.sentence(32, "Throws `IllegalArgumentException` if what is not from 0 to 2");
        lively().throwingEach("reason(#)", TestRun.ARGUMENT, -1, 3, MIN, MAX);
        TestSentence.sentence(32, "Throws `NoSuchElementException` if nothing was refused");
        TestRun.after().throwingEach("reason(#)", TestRun.ELEMENT, 0, 1, 2);
        three().and("s00@0*1", "!y", "!b;", "undo()", "!restore()").throwingEach("reason(#)", TestRun.ELEMENT, 0, 1, 2);
        TestSentence.sentence(32, "If several conditions of a method are fulfilled, the one that is listed first "
                + "determines the exception.");
        three().throwingEach("reason(#)", TestRun.ARGUMENT, -1, 3, MIN, MAX);
        TestSentence.sentence(32, "What can be undone are the successful calls of bar, step, rest, stair, takeBack, "
                + "quarrel, end, coda, noCoda and commands.");
        lively().leavesAll("reason(0)").leavesAll("reason(1)").leavesAll("reason(2)");
    }

    // ---- promise 33 ----

    private static void line() {
        TestSentence.sentence(33,
                "for each step its floor, for each rest \".\", for each stair its floor and \"^\" for up "
                + "or \"v\" for down, each with \"*\" and its length behind, with a blank between two; "
                + "as in \"2*4 .*1 0^*2\"");
        three().and("s00@2*4;r00*1;u00@0*2").writes("line(0, 0)", "2*4 .*1 0^*2").answers("line(0, 0)", 12);
        for (int floor = 0; floor < 5; floor++) {
            eight().and("step(3, 7, " + floor + ", 4)").writes("line(3, 7)", floor + "*4").writes("line(3, 6)", "");
        }
        eight().and("stair(3, 7, 3, 4, true)", "stair(3, 7, 4, 4, false)").writes("line(3, 7)", "3^*4 4v*4");
        eight().and("stair(0, 0, 0, 2, true)", "stair(0, 0, 1, 2, false)", "stair(0, 0, 3, 2, true)",
                "stair(0, 0, 4, 2, false)")
                .writes("line(0, 0)", "0^*2 1v*2 3^*2 4v*2");
        three().and("r20*3;r20*2;r20*1").writes("line(2, 0)", ".*3 .*2 .*1").and("s20@4*2")
                .writes("line(2, 0)", ".*3 .*2 .*1 4*2");
        TestRun longest = eight().and("s37@0*1;s37@1*1;s37@2*1;s37@3*1;s37@4*1;r37*1", "s37@0*1;r37*1");
        longest.writes("line(3, 7)", "0*1 1*1 2*1 3*1 4*1 .*1 0*1 .*1").answers("line(3, 7)", 31);
        TestSentence.sentence(33, "Returns the length of the line.");
        three().answersEach("line(#, 2)", 0, 0, 3).writes("line(0, 0)", "").and("step(0, 0, 4, 1)")
                .answers("line(0, 0)", 3);
        three().and("stair(0, 0, 1, 2, false)").answers("line(0, 0)", 4);
        TestSentence.sentence(33, "in place of the line before");
        longest.and("line(3, 7)", "takeBack(3, 7)").writes("line(3, 7)", "0*1 1*1 2*1 3*1 4*1 .*1 0*1");
        longest.and("line(3, 7)").writes("line(0, 0)", "").and("staff(7, 0)").writes("line(3, 0)", "");
        longest.and("staff(7, 0)").writes("line(3, 7)", "0*1 1*1 2*1 3*1 4*1 .*1 0*1 .*1");
        longest.and("line(0, 0)").writes("line(3, 7)", "0*1 1*1 2*1 3*1 4*1 .*1 0*1 .*1");
    }

    private static void lineOutside() {
        TestSentence.sentence(33, "Throws `IndexOutOfBoundsException` if there is no such sister or bar");
        lively().throwingEach("line(#, 0)", TestRun.INDEX, -1, 4, MIN, MAX)
                .throwingEach("line(0, #)", TestRun.INDEX, -1, 3, 8, MIN, MAX);
        lively().throwing("line(4, 3)", TestRun.INDEX).throwing("line(-1, -1)", TestRun.INDEX);
        eight().and("line(0, 0)").throwingEach("line(0, #)", TestRun.INDEX, -1, 8);
        TestSentence.sentence(33,
                "The text buffer, the fault position, the reason and the line do not belong to it, and stay.");
        lively().and("undo()").answers("character(0)", '1').answers("character(9)", '.').and("restore()")
                .answers("character(9)", '.');
        lively().and("line(0, 0)").isAs(lively());
        lively().and("takeBack(0, 0)", "takeBack(0, 0)").answers("character(9)", '.');
    }

    // ---- promise 34 ----

    private static void staff() {
        TestSentence.sentence(34,
                "for each beat \"-\" if no sister sounds on it, the sister if there is just one, "
                + "and \"+\" if there are more");
        TestRun house = three().and("step(0, 1, 4, 4)", "step(0, 1, 0, 4)", "step(1, 1, 4, 3)", "rest(1, 1, 1)",
                "step(1, 1, 0, 3)",
                "step(2, 1, 4, 2)", "rest(2, 1, 2)", "step(2, 1, 0, 2)", "step(3, 1, 4, 1)", "rest(3, 1, 3)",
                "step(3, 1, 0, 1)");
        house.writes("staff(1, 4)", "+++0----").writes("staff(1, 0)", "----+++0").writes("staff(1, 1)", "--------")
                .writes("staff(1, 2)", "--------").writes("staff(1, 3)", "--------").writes("staff(0, 4)", "--------")
                .writes("staff(2, 0)", "--------");
        for (int sister = 0; sister < 4; sister++) {
            eight().and("rest(" + sister + ", 7, 4)", "rest(" + sister + ", 7, 3)", "step(" + sister + ", 7, 4, 1)")
                    .writes("staff(7, 4)", "-------" + sister).writes("staff(6, 4)", "--------");
        }
        three().and("stair(3, 0, 0, 4, true)", "stair(3, 0, 1, 4, false)").writes("staff(0, 0)", "33----33")
                .writes("staff(0, 1)", "--3333--");
        for (int one = 0; one < 4; one++) {
            for (int other = one + 1; other < 4; other++) {
                three().and("step(" + one + ", 0, 0, 1)", "step(" + other + ", 0, 0, 1)")
                        .writes("staff(0, 0)", "+-------");
            }
        }
        three().and("step(0, 0, 2, 1)", "step(1, 0, 2, 1)", "step(2, 0, 2, 1)").writes("staff(0, 2)", "+-------")
                .and("step(3, 0, 2, 1)").writes("staff(0, 2)", "+-------");
        TestSentence.sentence(34, "Returns the length of the line.");
        eight().answersEach("staff(#, 4)", 8, 0, 7).answersRow("staff(7, #)", 8, 8, 8, 8, 8);
        TestSentence.sentence(34, "in place of the line before");
        house.and("line(0, 1)", "staff(1, 4)").writes("staff(1, 2)", "--------").and("line(0, 0)")
                .writes("staff(1, 4)", "+++0----");
        eight().and("s37@0*1;s37@1*1;s37@2*1;s37@3*1;s37@4*1;r37*1", "line(3, 7)").writes("staff(7, 3)", "---3----");
    }

    private static void staffOutside() {
        TestSentence.sentence(34, "Throws `IndexOutOfBoundsException` if there is no such bar");
        lively().throwingEach("staff(#, 0)", TestRun.INDEX, -1, 3, 8, MIN, MAX);
        eight().throwingEach("staff(#, 0)", TestRun.INDEX, -1, 8);
        TestSentence.sentence(34, "Throws `IllegalArgumentException` if there is no such floor");
        lively().throwingEach("staff(0, #)", TestRun.ARGUMENT, -1, 5, MIN, MAX)
                .throwingEach("staff(2, #)", TestRun.ARGUMENT, -1, 5);
        TestSentence.sentence(34, "If several conditions of a method are fulfilled, the one that is listed first "
                + "determines the exception.");
        lively().throwingEach("staff(#, 5)", TestRun.INDEX, -1, 3, MIN, MAX)
                .throwingEach("staff(#, -1)", TestRun.INDEX, -1, 3);
    }

    // ---- promise 35 ----

    private static void character() {
        TestSentence.sentence(35, "Returns a character of the line, which is empty at first.");
        TestRun.after().throwingEach("character(#)", TestRun.INDEX, 0, -1, 1, 60, MIN, MAX);
        three().and("step(0, 0, 0, 1)").throwing("character(0)", TestRun.INDEX);
        three().and("step(0, 0, 2, 4)", "line(0, 0)").answers("character(0)", '2').answers("character(1)", '*')
                .answers("character(2)", '4');
        TestSentence.sentence(35, "Throws `IndexOutOfBoundsException` if there is no such index");
        TestRun step = three().and("step(0, 0, 2, 4)", "line(0, 0)");
        step.throwingEach("character(#)", TestRun.INDEX, -1, 3, 4, 31, 59, 60, MIN, MAX);
        TestRun beats = three().and("step(0, 0, 2, 4)", "step(0, 0, 2, 4)", "staff(0, 2)");
        beats.answers("character(0)", '0').answers("character(7)", '0')
                .throwingEach("character(#)", TestRun.INDEX, -1, 8);
        TestRun longest = eight().and("s37@0*1;s37@1*1;s37@2*1;s37@3*1;s37@4*1;r37*1", "s37@0*1;s37@3*1", "line(3, 7)");
        longest.answers("character(0)", '0').answers("character(30)", '1').answers("character(28)", '3')
                .throwingEach("character(#)", TestRun.INDEX, -1, 31);
        longest.and("staff(7, 2)").answers("character(7)", '-').throwingEach("character(#)", TestRun.INDEX, 8, 30);
        longest.and("line(0, 0)").throwingEach("character(#)", TestRun.INDEX, -1, 0, 1, 30);
        TestSentence.sentence(35,
                "A call that throws an exception leaves the state unchanged, unless stated otherwise.");
        longest.and("!line(4, 7)", "!staff(8, 0)", "!staff(0, 5)", "!character(31)").answers("character(30)", '1');
        TestSentence.sentence(35, "What can be undone are the successful calls of bar, step, rest, stair, takeBack, "
                + "quarrel, end, coda, noCoda and commands.");
        lively().leavesAll("character(0)").leavesAll("character(11)");
    }

    // ---- promise 36 ----

    private static void meanSteps() {
        TestSentence.sentence(36,
                "Returns the mean of the steps of the bars: the sum divided by their number, both as doubles.");
        three().answers("meanSteps()", 0.0).and("r00*4").answers("meanSteps()", 0.0);
        three().and("s00@0*1").answers("meanSteps()", 1.0 / 3.0).and("s12@4*4").answers("meanSteps()", 5.0 / 3.0);
        three().and("s01@0*1;u01@0*2").answers("meanSteps()", 1.0);
        TestRun.after("b", "s00@1*4;s10@1*4;s20@1*4;s30@1*4", "s00@1*4;s10@1*4;s20@1*4;s30@1*4")
                .answers("meanSteps()", 32.0)
                .and("b").answers("meanSteps()", 16.0);
        eight().and("s37@4*1").answers("meanSteps()", 0.125).and("s37@4*4;s36@4*4;s06@0*4")
                .answers("meanSteps()", 13.0 / 8.0);
        three().and("s01@0*2", "coda(0, 2)").answers("meanSteps()", 2.0 / 3.0);
        TestSentence.sentence(36, "Throws `ArithmeticException` if there are none");
        TestRun.after().throwing("meanSteps()", TestRun.QUOTIENT);
        TestRun.after("save()", "b", "!n", "!b;", "append(98)", "undo()").throwing("meanSteps()", TestRun.QUOTIENT);
        TestRun.after("save()", "b", "s00@0*1", "line(0, 0)", "restore()").throwing("meanSteps()", TestRun.QUOTIENT);
        TestSentence.sentence(36, "What can be undone are the successful calls of bar, step, rest, stair, takeBack, "
                + "quarrel, end, coda, noCoda and commands.");
        lively().leavesAll("meanSteps()");
    }

    // ---- promise 37 ----

    private static void fullShare() {
        TestSentence.sentence(37,
                "Returns what part of the rows of all sisters in all bars is full, both numbers as floats.");
        three().answers("fullShare()", 0.0f).and("s00@0*4;s00@0*3").answers("fullShare()", 0.0f)
                .and("s00@0*1").answers("fullShare()", 1.0f / 12.0f);
        TestRun.after("b", "s00@0*4;s00@0*4").answers("fullShare()", 0.25f).and("r30*4;r30*4")
                .answers("fullShare()", 0.5f)
                .and("u10@0*4;d10@4*4;r20*4;s20@1*4").answers("fullShare()", 1.0f).and("b")
                .answers("fullShare()", 0.5f);
        TestRun eight = eight().and("s37@4*4;s37@4*4").answers("fullShare()", 1.0f / 32.0f);
        eight.and("x37").answers("fullShare()", 0.0f).and("s37@0*3").answers("fullShare()", 0.0f)
                .and("r37*1").answers("fullShare()", 1.0f / 32.0f);
        TestRun all = TestRun.after();
        for (int bar = 0; bar < 8; bar++) {
            all = all.and("bar()");
            for (int sister = 0; sister < 4; sister++) {
                String rest = "rest(" + sister + ", " + bar + ", 4)";
                all = all.and(rest, rest);
            }
        }
        all.answers("fullShare()", 1.0f).and("undo()").answers("fullShare()", 31.0f / 32.0f).and("coda(0, 7)")
                .answers("fullShare()", 31.0f / 32.0f);
        TestSentence.sentence(37, "a bar is full for a sister if they last for 8");
        three().and("r00*4;s00@0*2;u00@3*2").answers("fullShare()", 1.0f / 12.0f).and("x00")
                .answers("fullShare()", 0.0f);
        TestSentence.sentence(37, "Throws `ArithmeticException` if there are no bars");
        TestRun.after().throwing("fullShare()", TestRun.QUOTIENT);
        TestRun.after("save()", "b", "!n", "!b;", "append(98)", "undo()").throwing("fullShare()", TestRun.QUOTIENT);
        TestRun.after("save()", "b", "s00@0*1", "line(0, 0)", "restore()").throwing("fullShare()", TestRun.QUOTIENT);
        TestSentence.sentence(37, "What can be undone are the successful calls of bar, step, rest, stair, takeBack, "
                + "quarrel, end, coda, noCoda and commands.");
        lively().leavesAll("fullShare()");
    }
}
