/** The boundary cases of the promises 11 to 28, sentence by sentence: what is asked of the house. */
public final class QuestionEdgeTests {
    private static final int MIN = TestRun.MIN;
    private static final int MAX = TestRun.MAX;

    private QuestionEdgeTests() {
    }

    public static void main(String[] args) {
        floorAt();
        floorAtOutside();
        sounding();
        signOf();
        signOfOutside();
        lacking();
        stepsInTwoWays();
        stepsOf();
        key();
        clashesInTwoWays();
        beatsOn();
        fullest();
        fullestOutside();
        played();
        playedSteps();
        areAlike();
        wouldClash();
        wouldClashOutside();
        bestShift();
        bestShiftTies();
        bestShiftInside();
        ranked();
        rankedOutside();
        asking();
        TestSentence.finish(11, 28);
    }

    private static TestRun three() {
        return TestRun.after(TestRun.bars(3));
    }

    private static TestRun eight() {
        return TestRun.after(TestRun.bars(8));
    }

    /** Three bars; sister 0 in bar 0 is at 1 1 1 1 1 2 . and nowhere, sister 3 in bar 2 at 4 4 3 3 0 0 0 0. */
    private static TestRun lively() {
        return three().and("step(0, 0, 1, 4)", "stair(0, 0, 1, 2, true)", "rest(0, 0, 1)",
                "stair(3, 2, 4, 4, false)", "step(3, 2, 0, 4)", "quarrel(0, 3, 0)", "end(0, 3, 2)");
    }

    /** A step of one beat on each of the floors, one behind the other. */
    private static String[] walk(int sister, int bar, int... floors) {
        String[] calls = new String[floors.length];
        for (int place = 0; place < floors.length; place++) {
            calls[place] = "step(" + sister + ", " + bar + ", " + floors[place] + ", 1)";
        }
        return calls;
    }

    /** Eight beats on one floor. */
    private static String[] stand(int sister, int bar, int floor) {
        String step = "step(" + sister + ", " + bar + ", " + floor + ", 4)";
        return new String[] {step, step};
    }

    private static String[] restAll(int sister, int bar) {
        String rest = "rest(" + sister + ", " + bar + ", 4)";
        return new String[] {rest, rest};
    }

    private static TestRun allQuarrel(TestRun house, int from) {
        return house.and("quarrel(0, 1, " + from + ")", "quarrel(0, 2, " + from + ")", "quarrel(0, 3, " + from + ")",
                "quarrel(1, 2, " + from + ")", "quarrel(1, 3, " + from + ")", "quarrel(2, 3, " + from + ")");
    }

    private static void badSisters(TestRun house, String... calls) {
        for (String call : calls) {
            house.throwingEach(call, TestRun.INDEX, -1, 4, MIN, MAX);
        }
    }

    /** The house has three bars. */
    private static void badBars(TestRun house, String... calls) {
        for (String call : calls) {
            house.throwingEach(call, TestRun.INDEX, -1, 3, 8, MIN, MAX);
        }
    }

    private static void badBeats(TestRun house, String... calls) {
        for (String call : calls) {
            house.throwingEach(call, TestRun.ARGUMENT, -1, 8, MIN, MAX);
        }
    }

    private static void badFloors(TestRun house, String... calls) {
        for (String call : calls) {
            house.throwingEach(call, TestRun.ARGUMENT, -1, 5, MIN, MAX);
        }
    }

    // ---- promise 11 ----

    private static void floorAt() {
        TestSentence.sentence(11, "each has the beats 0 to 7");
        eight().and(walk(3, 7, 4, 3, 2, 1, 0, 1, 2, 3)).answersRow("floorAt(3, 7, #)", 4, 3, 2, 1, 0, 1, 2, 3);
        eight().and(walk(0, 0, 0, 1, 2, 3, 4, 3, 2, 1)).answersRow("floorAt(0, 0, #)", 0, 1, 2, 3, 4, 3, 2, 1);
        TestSentence.sentence(11, "Returns the floor, or -1 if she does not sound.");
        lively().answersRow("floorAt(0, 0, #)", 1, 1, 1, 1, 1, 2, -1, -1);
        lively().answersRow("floorAt(3, 2, #)", 4, 4, 3, 3, 0, 0, 0, 0);
        lively().answersEach("floorAt(0, 1, #)", -1, 0, 7).answersEach("floorAt(3, 0, #)", -1, 0, 7)
                .answersEach("floorAt(1, 0, #)", -1, 0, 7).answersEach("floorAt(0, 2, #)", -1, 0, 7);
        TestSentence.sentence(11, "Behind her last sign a sister is nowhere.");
        three().and("step(1, 1, 0, 1)").answersRow("floorAt(1, 1, #)", 0, -1, -1, -1, -1, -1, -1, -1);
        three().and(walk(1, 1, 0, 0, 0, 0, 0, 0, 0)).answersEach("floorAt(1, 1, #)", 0, 0, 6)
                .answers("floorAt(1, 1, 7)", -1);
        TestSentence.sentence(11, "A rest on tiptoe lasts for 1 to 4 beats, and does not sound.");
        three().and("rest(1, 1, 1)", "step(1, 1, 0, 1)", "rest(1, 1, 4)", "step(1, 1, 4, 1)", "rest(1, 1, 1)")
                .answersRow("floorAt(1, 1, #)", -1, 0, -1, -1, -1, -1, 4, -1);
        TestSentence.sentence(11,
                "sounds on the one floor in the first half of them, and on the other floor in the second half");
        three().and("stair(2, 1, 3, 2, true)", "stair(2, 1, 4, 4, false)", "stair(2, 1, 1, 2, false)")
                .answersRow("floorAt(2, 1, #)", 3, 4, 4, 4, 3, 3, 1, 0);
        three().and("stair(2, 1, 1, 2, false)", "stair(2, 1, 0, 4, true)", "stair(2, 1, 3, 2, true)")
                .answersRow("floorAt(2, 1, #)", 1, 0, 0, 0, 1, 1, 3, 4);
    }

    private static void floorAtOutside() {
        TestSentence.sentence(11, "Throws `IndexOutOfBoundsException` if there is no such sister or bar");
        badSisters(lively(), "floorAt(#, 0, 0)", "floorAt(#, 2, 7)");
        badBars(lively(), "floorAt(0, #, 0)", "floorAt(3, #, 7)");
        eight().throwingEach("floorAt(0, #, 0)", TestRun.INDEX, -1, 8).answersEach("floorAt(0, #, 0)", -1, 0, 7);
        TestSentence.sentence(11, "Throws `IllegalArgumentException` if there is no such beat");
        badBeats(lively(), "floorAt(0, 0, #)", "floorAt(3, 2, #)");
        TestSentence.sentence(11, "If several conditions of a method are fulfilled, the one that is listed first "
                + "determines the exception.");
        badSisters(lively(), "floorAt(#, 0, 8)", "floorAt(#, 3, -1)");
        badBars(lively(), "floorAt(0, #, 8)", "floorAt(0, #, -1)");
    }

    // ---- promise 12 ----

    private static void sounding() {
        TestSentence.sentence(12, "Returns the set of them, bit k for the sister k.");
        for (int sister = 0; sister < 4; sister++) {
            eight().and(stand(sister, 7, 4)).answersEach("sounding(7, #)", 1 << sister, 0, 7)
                    .answers("sounding(6, 7)", 0);
        }
        TestRun all = three().and("step(0, 0, 0, 4)", "step(1, 0, 0, 3)", "step(2, 0, 4, 2)", "step(3, 0, 2, 1)");
        all.answersRow("sounding(0, #)", 15, 7, 3, 1, 0, 0, 0, 0).answersEach("sounding(1, #)", 0, 0, 7);
        TestSentence.sentence(12, "Who is nowhere does not sound.");
        three().and(walk(2, 2, 1, 1, 1, 1, 1, 1, 1)).answers("sounding(2, 6)", 4).answers("sounding(2, 7)", 0);
        lively().answersRow("sounding(0, #)", 1, 1, 1, 1, 1, 1, 0, 0);
        TestSentence.sentence(12, "A rest on tiptoe lasts for 1 to 4 beats, and does not sound.");
        three().and("rest(3, 0, 1)", "step(3, 0, 0, 4)", "rest(3, 0, 2)", "step(3, 0, 4, 1)")
                .answersRow("sounding(0, #)", 0, 8, 8, 8, 8, 0, 0, 8);
        TestSentence.sentence(12, "Throws `IndexOutOfBoundsException` if there is no such bar");
        badBars(lively(), "sounding(#, 0)", "sounding(#, 7)");
        eight().throwingEach("sounding(#, 0)", TestRun.INDEX, -1, 8);
        TestSentence.sentence(12, "Throws `IllegalArgumentException` if there is no such beat");
        badBeats(lively(), "sounding(0, #)", "sounding(2, #)");
        TestSentence.sentence(12, "If several conditions of a method are fulfilled, the one that is listed first "
                + "determines the exception.");
        badBars(lively(), "sounding(#, 8)", "sounding(#, -1)");
    }

    // ---- promise 13 ----

    private static void signOf() {
        TestRun house = three().and("rest(1, 2, 1)", "step(1, 2, 4, 2)", "stair(1, 2, 0, 2, true)",
                "stair(1, 2, 4, 2, false)", "step(1, 2, 0, 1)");
        TestSentence.sentence(13,
                "0 for its kind, which is 0 for a step, 1 for a rest, 2 for a stair up and 3 for one down");
        house.answersRow("signOf(1, 2, #, 0)", 1, 0, 2, 3, 0);
        TestSentence.sentence(13, "1 for its length");
        house.answersRow("signOf(1, 2, #, 1)", 1, 2, 2, 2, 1);
        three().and("stair(0, 0, 0, 4, true)", "stair(0, 0, 4, 4, false)").answersRow("signOf(0, 0, #, 1)", 4, 4);
        three().and("step(0, 0, 0, 4)", "rest(0, 0, 4)").answersRow("signOf(0, 0, #, 1)", 4, 4);
        three().and("rest(0, 0, 3)", "step(0, 0, 0, 3)", "rest(0, 0, 2)").answersRow("signOf(0, 0, #, 1)", 3, 3, 2);
        TestSentence.sentence(13, "2 for the beat in which it begins");
        house.answersRow("signOf(1, 2, #, 2)", 0, 1, 3, 5, 7);
        three().and(stand(0, 0, 3)).answersRow("signOf(0, 0, #, 2)", 0, 4);
        TestSentence.sentence(13, "3 for the floor on which it begins, -1 for a rest");
        house.answersRow("signOf(1, 2, #, 3)", -1, 4, 0, 4, 0);
        three().and("step(0, 0, 0, 1)", "rest(0, 0, 1)", "stair(0, 0, 1, 2, false)", "stair(0, 0, 3, 2, true)",
                "rest(0, 0, 1)").answersRow("signOf(0, 0, #, 3)", 0, -1, 1, 3, -1);
        TestSentence.sentence(13, "its place in her row, from 0");
        TestRun small = eight().and(walk(3, 7, 4, 3, 2, 1, 0, 1, 2, 4));
        small.answersRow("signOf(3, 7, #, 3)", 4, 3, 2, 1, 0, 1, 2, 4)
                .answersRow("signOf(3, 7, #, 2)", 0, 1, 2, 3, 4, 5, 6, 7);
    }

    private static void signOfOutside() {
        TestSentence.sentence(13, "Throws `IndexOutOfBoundsException` if there is no such sister or bar");
        badSisters(lively(), "signOf(#, 0, 0, 0)");
        badBars(lively(), "signOf(0, #, 0, 0)");
        TestSentence.sentence(13, "Throws `NoSuchElementException` if there is no such place");
        lively().answers("signOf(0, 0, 2, 1)", 1).throwingEach("signOf(0, 0, #, 1)", TestRun.ELEMENT, -1, 3, 7, 8,
                MIN, MAX);
        lively().answers("signOf(3, 2, 1, 1)", 4).throwingEach("signOf(3, 2, #, 3)", TestRun.ELEMENT, -1, 2, 8);
        lively().throwingEach("signOf(1, 0, #, 0)", TestRun.ELEMENT, -1, 0, 1)
                .throwing("signOf(0, 1, 0, 0)", TestRun.ELEMENT);
        eight().and(walk(3, 7, 4, 4, 4, 4, 4, 4, 4, 4)).answers("signOf(3, 7, 7, 3)", 4)
                .throwingEach("signOf(3, 7, #, 3)", TestRun.ELEMENT, -1, 8, MAX);
        lively().and("takeBack(0, 0)").answers("signOf(0, 0, 1, 0)", 2).throwing("signOf(0, 0, 2, 0)", TestRun.ELEMENT);
        TestSentence.sentence(13, "Throws `IllegalArgumentException` if what is not from 0 to 3");
        lively().throwingEach("signOf(0, 0, 0, #)", TestRun.ARGUMENT, -1, 4, MIN, MAX)
                .throwingEach("signOf(0, 0, 2, #)", TestRun.ARGUMENT, -1, 4);
        TestSentence.sentence(13, "If several conditions of a method are fulfilled, the one that is listed first "
                + "determines the exception.");
        badSisters(lively(), "signOf(#, 0, 3, 0)", "signOf(#, 0, 0, 4)", "signOf(#, 3, -1, -1)");
        badBars(lively(), "signOf(0, #, -1, 0)", "signOf(0, #, 0, -1)", "signOf(0, #, 3, 4)");
        lively().throwingEach("signOf(0, 0, 3, #)", TestRun.ELEMENT, -1, 4, MIN, MAX)
                .throwingEach("signOf(1, 0, #, 4)", TestRun.ELEMENT, -1, 0, MIN, MAX);
    }

    // ---- promise 14 ----

    private static void lacking() {
        TestSentence.sentence(14, "Returns how many beats a sister lacks in a bar until it is full for her.");
        TestRun house = eight();
        house.answersEach("lacking(#, 7)", 8, 0, 3).answersEach("lacking(0, #)", 8, 0, 7);
        TestRun row = house;
        for (int beats = 1; beats <= 8; beats++) {
            row = row.and("step(3, 7, 4, 1)");
            row.answers("lacking(3, 7)", 8 - beats).answers("lacking(2, 7)", 8).answers("lacking(3, 6)", 8);
        }
        lively().answers("lacking(0, 0)", 1).answers("lacking(3, 2)", 0).answers("lacking(3, 0)", 8)
                .answers("lacking(0, 2)", 8);
        TestSentence.sentence(14, "a bar is full for a sister if they last for 8");
        house.and(restAll(0, 0)).answers("lacking(0, 0)", 0).and("takeBack(0, 0)").answers("lacking(0, 0)", 4);
        house.and("stair(0, 0, 0, 4, true)", "stair(0, 0, 0, 2, true)", "rest(0, 0, 1)").answers("lacking(0, 0)", 1)
                .and("rest(0, 0, 1)").answers("lacking(0, 0)", 0);
        TestSentence.sentence(14, "Throws `IndexOutOfBoundsException` if there is no such sister or bar");
        badSisters(lively(), "lacking(#, 0)", "lacking(#, 3)");
        badBars(lively(), "lacking(0, #)", "lacking(4, #)");
        eight().throwingEach("lacking(0, #)", TestRun.INDEX, -1, 8);
    }

    // ---- promises 15 and 16 ----

    private static void stepsInTwoWays() {
        TestRun full = eight().and(stand(0, 7, 0)).and(stand(1, 7, 0)).and(stand(2, 7, 4)).and(stand(3, 7, 4));
        TestRun mixed = three().and("stair(0, 0, 0, 4, true)", "stair(0, 0, 4, 2, false)", "rest(0, 0, 1)",
                "step(0, 0, 2, 1)", "rest(1, 0, 4)", "step(3, 0, 2, 3)");
        TestRun rests = three().and(restAll(0, 1)).and(restAll(3, 1));
        String[] ways = {"steps", "stepsAgain"};
        String[] told = {"Returns the steps of a bar: sign by sign.",
            "Returns the same by a second way: beat by beat."};
        for (int way = 0; way < 2; way++) {
            int promise = 15 + way;
            String call = ways[way] + "(#)";
            TestSentence.sentence(promise, told[way]);
            full.answersEach(call, 32, 7).answersEach(call, 0, 0, 6);
            full.and("takeBack(3, 7)", "step(3, 7, 0, 3)").answersEach(call, 31, 7);
            mixed.answersRow(call, 10, 0, 0);
            lively().answersRow(call, 6, 0, 8);
            TestSentence.sentence(promise, "the beats in which a sister sounds, of all sisters together");
            three().and("step(0, 0, 2, 1)", "step(1, 0, 2, 1)", "step(2, 0, 2, 1)", "step(3, 0, 2, 1)")
                    .answersRow(call, 4, 0, 0);
            eight().and(walk(3, 7, 4, 4, 4, 4, 4, 4, 4, 4)).answersEach(call, 8, 7).answersEach(call, 0, 6);
            TestSentence.sentence(promise, "A rest on tiptoe lasts for 1 to 4 beats, and does not sound.");
            rests.answersRow(call, 0, 0, 0).and("takeBack(3, 1)", "step(3, 1, 0, 1)").answersRow(call, 0, 1, 0);
            TestSentence.sentence(promise, "Throws `IndexOutOfBoundsException` if there is no such bar");
            badBars(lively(), call);
            eight().throwingEach(call, TestRun.INDEX, -1, 8).answersEach(call, 0, 0, 7);
        }
    }

    // ---- promise 17 ----

    private static void stepsOf() {
        TestSentence.sentence(17, "Returns the beats in which a sister sounds in all bars together, played or not.");
        lively().answersRow("stepsOf(#)", 6, 0, 0, 8);
        TestRun all = eight();
        for (int bar = 0; bar < 8; bar++) {
            all = all.and(stand(3, bar, 4));
        }
        all.answersRow("stepsOf(#)", 0, 0, 0, 64).and("coda(0, 7)").answersRow("stepsOf(#)", 0, 0, 0, 64);
        TestRun skipped = three().and("step(0, 0, 0, 1)", "step(0, 1, 0, 2)", "step(0, 2, 0, 4)");
        skipped.answers("stepsOf(0)", 7).and("coda(0, 2)").answers("stepsOf(0)", 7).answers("playedSteps()", 5);
        three().and(restAll(0, 0)).answers("stepsOf(0)", 0);
        TestSentence.sentence(17, "Throws `IndexOutOfBoundsException` if there is no such sister");
        badSisters(lively(), "stepsOf(#)");
    }

    // ---- promise 18 ----

    private static void key() {
        TestSentence.sentence(18, "Returns the set of the pairs, bit k for the pair k.");
        eight().answersEach("key(#)", 0, 0, 7);
        allQuarrel(eight(), 7).answers("key(7)", 63).answers("key(6)", 0);
        allQuarrel(eight(), 0).answersEach("key(#)", 63, 0, 7);
        TestRun pairs = eight().and("quarrel(0, 1, 1)", "quarrel(2, 0, 2)", "quarrel(0, 3, 3)", "quarrel(2, 1, 4)",
                "quarrel(3, 1, 5)", "quarrel(2, 3, 6)");
        pairs.answersRow("key(#)", 0, 1, 3, 7, 15, 31, 63, 63);
        TestSentence.sentence(18,
                "the quarrel lasts in this bar and in all later ones ahead of the bar in which it ends, "
                + "or in all later ones if it does not end");
        pairs.and("end(0, 1, 2)", "end(2, 3, 7)", "end(0, 2, 8)").answersRow("key(#)", 0, 1, 2, 6, 14, 30, 62, 30);
        eight().and("quarrel(1, 3, 7)", "end(1, 3, 8)").answers("key(7)", 16).answers("key(6)", 0);
        lively().answersRow("key(#)", 4, 4, 0);
        TestSentence.sentence(18, "Throws `IndexOutOfBoundsException` if there is no such bar");
        badBars(lively(), "key(#)");
        pairs.throwingEach("key(#)", TestRun.INDEX, -1, 8);
    }

    // ---- promises 19 and 20 ----

    private static void clashesInTwoWays() {
        TestRun full = allQuarrel(eight().and(stand(0, 7, 4)).and(stand(1, 7, 4)).and(stand(2, 7, 4))
                .and(stand(3, 7, 4)), 7);
        TestRun ends = three().and("quarrel(0, 1, 0)").and(walk(0, 0, 0, 1, 1, 1, 1, 1, 1, 4))
                .and(walk(1, 0, 0, 2, 2, 2, 2, 2, 2, 4));
        String[] ways = {"clashes", "clashesAgain"};
        String[] told = {"Returns the clashes of a bar: beat by beat.",
            "Returns the same by a second way: pair by pair, by the sets of beats on each floor."};
        for (int way = 0; way < 2; way++) {
            int promise = 19 + way;
            String call = ways[way] + "(#)";
            TestSentence.sentence(promise, told[way]);
            ends.answersRow(call, 2, 0, 0).and("takeBack(0, 0)").answersRow(call, 1, 0, 0);
            three().and("quarrel(0, 1, 0)").and(walk(0, 2, 0, 1, 2, 3, 4)).and(walk(1, 2, 0, 1, 2, 3, 4))
                    .answersRow(call, 0, 0, 5);
            three().and("quarrel(2, 3, 1)", "stair(2, 1, 0, 4, true)", "step(3, 1, 1, 4)").answersRow(call, 0, 2, 0);
            TestSentence.sentence(promise,
                    "in which two sisters who quarrel in it sound on one floor; each pair counts for itself");
            full.answersEach(call, 48, 7).answersEach(call, 0, 0, 6);
            full.and("takeBack(3, 7)").answersEach(call, 36, 7).and("undo()", "undo()").answersEach(call, 40, 7);
            three().and(stand(0, 0, 2)).and(stand(1, 0, 2)).answersRow(call, 0, 0, 0).and("quarrel(0, 2, 0)")
                    .answersRow(call, 0, 0, 0)
                    .and("quarrel(1, 0, 0)").answersRow(call, 8, 0, 0);
            TestSentence.sentence(promise,
                    "the quarrel lasts in this bar and in all later ones ahead of the bar in which it ends");
            TestRun each = three().and("step(1, 0, 3, 1)", "step(3, 0, 3, 1)", "step(1, 1, 3, 2)", "step(3, 1, 3, 2)",
                    "step(1, 2, 3, 4)", "step(3, 2, 3, 4)", "quarrel(3, 1, 1)");
            each.answersRow(call, 0, 2, 4).and("end(1, 3, 2)").answersRow(call, 0, 2, 0);
            TestSentence.sentence(promise, "Who is nowhere does not sound.");
            allQuarrel(three(), 0).answersRow(call, 0, 0, 0);
            allQuarrel(three(), 0).and("step(0, 0, 0, 1)").answersRow(call, 0, 0, 0);
            TestSentence.sentence(promise, "A rest on tiptoe lasts for 1 to 4 beats, and does not sound.");
            allQuarrel(three(), 0).and(restAll(0, 0)).and(restAll(1, 0)).answersRow(call, 0, 0, 0)
                    .and(stand(2, 0, 0)).answersRow(call, 0, 0, 0);
            TestSentence.sentence(promise, "Throws `IndexOutOfBoundsException` if there is no such bar");
            badBars(lively(), call);
            eight().throwingEach(call, TestRun.INDEX, -1, 8);
        }
    }

    // ---- promise 21 ----

    private static void beatsOn() {
        TestSentence.sentence(21, "Returns the set of them, bit k for the beat k.");
        TestRun small = eight().and(walk(3, 7, 0, 1, 2, 3, 4, 2, 1, 0));
        small.answersRow("beatsOn(3, 7, #)", 1 + 128, 2 + 64, 4 + 32, 8, 16).answersEach("beatsOn(2, 7, #)", 0, 0, 4)
                .answersEach("beatsOn(3, 6, #)", 0, 0, 4);
        for (int floor = 0; floor < 5; floor++) {
            eight().and(stand(0, 0, floor)).answers("beatsOn(0, 0, " + floor + ")", 255)
                    .answers("beatsOn(0, 0, " + (floor + 1) % 5 + ")", 0);
        }
        lively().answersRow("beatsOn(0, 0, #)", 0, 31, 32, 0, 0).answersRow("beatsOn(3, 2, #)", 240, 0, 0, 12, 3);
        TestSentence.sentence(21, "A rest on tiptoe lasts for 1 to 4 beats, and does not sound.");
        three().and(restAll(0, 0)).answersRow("beatsOn(0, 0, #)", 0, 0, 0, 0, 0);
        TestSentence.sentence(21, "Throws `IndexOutOfBoundsException` if there is no such sister or bar");
        badSisters(lively(), "beatsOn(#, 0, 0)");
        badBars(lively(), "beatsOn(0, #, 0)");
        eight().throwingEach("beatsOn(0, #, 0)", TestRun.INDEX, -1, 8);
        TestSentence.sentence(21, "Throws `IllegalArgumentException` if there is no such floor");
        badFloors(lively(), "beatsOn(0, 0, #)", "beatsOn(3, 2, #)", "beatsOn(1, 1, #)");
        TestSentence.sentence(21, "If several conditions of a method are fulfilled, the one that is listed first "
                + "determines the exception.");
        badSisters(lively(), "beatsOn(#, 0, 5)", "beatsOn(#, 0, -1)");
        badBars(lively(), "beatsOn(0, #, 5)", "beatsOn(0, #, -1)");
    }

    // ---- promise 22 ----

    private static void fullest() {
        TestSentence.sentence(22,
                "Returns the floor on which the most sisters sound in a beat, of several the lowest.");
        for (int floor = 0; floor < 5; floor++) {
            eight().and("step(3, 7, " + floor + ", 1)").answers("fullest(7, 0)", floor);
        }
        TestRun two = three().and("step(0, 0, 4, 1)", "step(1, 0, 0, 1)");
        two.answers("fullest(0, 0)", 0).and("step(2, 0, 4, 1)").answers("fullest(0, 0)", 4)
                .and("step(3, 0, 0, 1)").answers("fullest(0, 0)", 0);
        three().and("step(0, 0, 3, 1)", "step(1, 0, 4, 1)", "step(2, 0, 1, 1)", "step(3, 0, 2, 1)")
                .answers("fullest(0, 0)", 1);
        three().and("step(0, 0, 3, 1)", "step(1, 0, 3, 1)", "step(2, 0, 3, 1)", "step(3, 0, 0, 1)")
                .answers("fullest(0, 0)", 3);
        three().and("step(0, 0, 4, 1)", "step(1, 0, 4, 1)", "step(2, 0, 4, 1)", "step(3, 0, 4, 1)")
                .answers("fullest(0, 0)", 4);
        TestRun last = eight().and(walk(3, 7, 0, 0, 0, 0, 0, 0, 0, 2)).and(walk(1, 7, 0, 0, 0, 0, 0, 0, 0, 1));
        last.answers("fullest(7, 6)", 0).answers("fullest(7, 7)", 1).answers("fullest(7, 0)", 0);
        TestSentence.sentence(22, "Who is nowhere does not sound.");
        three().and("step(0, 0, 4, 1)", "rest(1, 0, 4)", "rest(2, 0, 4)").answers("fullest(0, 0)", 4);
    }

    private static void fullestOutside() {
        TestSentence.sentence(22, "Throws `IndexOutOfBoundsException` if there is no such bar");
        badBars(lively(), "fullest(#, 0)");
        TestSentence.sentence(22, "Throws `IllegalArgumentException` if there is no such beat");
        badBeats(lively(), "fullest(0, #)", "fullest(2, #)");
        TestSentence.sentence(22, "Throws `NoSuchElementException` if none sounds");
        lively().answers("fullest(0, 5)", 2).throwingEach("fullest(0, #)", TestRun.ELEMENT, 6, 7)
                .throwingEach("fullest(1, #)", TestRun.ELEMENT, 0, 7);
        three().and(restAll(0, 0)).and(restAll(1, 0)).and(restAll(2, 0)).and(restAll(3, 0))
                .throwingEach("fullest(0, #)", TestRun.ELEMENT, 0, 3, 4, 7);
        TestSentence.sentence(22, "If several conditions of a method are fulfilled, the one that is listed first "
                + "determines the exception.");
        badBars(lively(), "fullest(#, 8)", "fullest(#, -1)", "fullest(#, 7)");
        badBeats(lively(), "fullest(1, #)");
    }

    // ---- promise 23 ----

    private static void played() {
        TestSentence.sentence(23, "Without a coda all bars are played in their order.");
        eight().answersRow("played(#)", 0, 1, 2, 3, 4, 5, 6, 7);
        TestRun.after("b").answersRow("played(#)", 0);
        TestSentence.sentence(23, "then the bars between are not played");
        eight().and("coda(0, 7)").answersRow("played(#)", 0, 7).throwingEach("played(#)", TestRun.ELEMENT, 2, 7);
        eight().and("coda(0, 2)").answersRow("played(#)", 0, 2, 3, 4, 5, 6, 7);
        eight().and("coda(5, 7)").answersRow("played(#)", 0, 1, 2, 3, 4, 5, 7);
        eight().and("coda(2, 5)").answersRow("played(#)", 0, 1, 2, 5, 6, 7);
        eight().and("coda(2, 5)", "coda(3, 6)").answersRow("played(#)", 0, 1, 2, 3, 6, 7);
        TestSentence.sentence(23, "A bar that is added behind all others is played even if a coda is told.");
        three().and("coda(0, 2)", "bar()").answersRow("played(#)", 0, 2, 3).throwing("played(3)", TestRun.ELEMENT);
        three().and("coda(0, 2)", TestRun.bars(5)).answersRow("played(#)", 0, 2, 3, 4, 5, 6, 7);
        TestSentence.sentence(23, "Throws `NoSuchElementException` if there is no such place");
        three().throwingEach("played(#)", TestRun.ELEMENT, -1, 3, 8, MIN, MAX);
        three().and("coda(0, 2)").throwingEach("played(#)", TestRun.ELEMENT, -1, 2, 3, MIN, MAX);
        eight().throwingEach("played(#)", TestRun.ELEMENT, -1, 8);
        eight().and("coda(0, 2)").throwingEach("played(#)", TestRun.ELEMENT, -1, 7);
    }

    // ---- promise 24 ----

    private static void playedSteps() {
        TestSentence.sentence(24, "Returns the steps of all bars that are played, together.");
        three().answers("playedSteps()", 0);
        three().and(restAll(0, 0)).answers("playedSteps()", 0);
        lively().answers("playedSteps()", 14);
        TestRun steps = eight();
        for (int bar = 0; bar < 8; bar++) {
            steps = steps.and(walk(bar % 4, bar, new int[bar + 1]));
        }
        steps.answers("playedSteps()", 36).and("coda(0, 7)").answers("playedSteps()", 9);
        steps.and("coda(0, 2)").answers("playedSteps()", 34);
        steps.and("coda(5, 7)").answers("playedSteps()", 29);
        steps.and("coda(5, 7)", "noCoda()").answers("playedSteps()", 36);
        steps.and("coda(5, 7)", "step(0, 6, 0, 1)").answers("playedSteps()", 29).answers("account(2)", 37);
        TestSentence.sentence(24, "A bar that is added behind all others is played even if a coda is told.");
        three().and("step(0, 1, 0, 4)", "coda(0, 2)", "bar()", "step(3, 3, 0, 3)").answers("playedSteps()", 3);
    }

    // ---- promise 25 ----

    private static void areAlike() {
        TestSentence.sentence(25, "whether in each beat she sounds in both, on the same floor, or in neither");
        TestRun house = eight().and(walk(3, 0, 0, 4, 4, 4, 4, 4, 4, 2))
                .and("step(3, 7, 0, 1)", "step(3, 7, 4, 4)", "step(3, 7, 4, 2)");
        TestRun alike = house.and("step(3, 7, 2, 1)");
        alike.answers("areAlike(3, 0, 7)", true).answers("areAlike(3, 7, 0)", true).answers("areAlike(3, 0, 0)", true);
        house.answers("areAlike(3, 0, 7)", false).answers("areAlike(3, 7, 0)", false);
        house.and("step(3, 7, 1, 1)").answers("areAlike(3, 0, 7)", false);
        house.and("rest(3, 7, 1)").answers("areAlike(3, 0, 7)", false).answers("areAlike(3, 7, 0)", false);
        TestRun first = eight().and(walk(0, 0, 0, 3)).and(walk(0, 7, 1, 3));
        first.answers("areAlike(0, 0, 7)", false).answers("areAlike(0, 7, 0)", false);
        three().and("rest(0, 0, 1)", "step(0, 0, 3, 1)").and(walk(0, 1, 0, 3)).answers("areAlike(0, 0, 1)", false)
                .answers("areAlike(0, 1, 0)", false);
        three().and("stair(0, 0, 3, 2, true)").and(walk(0, 1, 3, 4)).answers("areAlike(0, 0, 1)", true);
        three().and("stair(0, 0, 3, 4, true)").and(walk(0, 1, 3, 4)).answers("areAlike(0, 0, 1)", false);
        TestSentence.sentence(25, "Who is nowhere does not sound.");
        three().answers("areAlike(0, 0, 2)", true).answers("areAlike(3, 1, 1)", true);
        three().and(restAll(0, 0)).answers("areAlike(0, 0, 2)", true).answers("areAlike(0, 2, 0)", true);
        TestSentence.sentence(25, "Returns whether two bars are alike for a sister");
        alike.answers("areAlike(0, 0, 7)", true).answers("areAlike(2, 7, 0)", true).answers("areAlike(3, 0, 1)", false);
        TestSentence.sentence(25, "Throws `IndexOutOfBoundsException` if there is no such sister or bar");
        badSisters(lively(), "areAlike(#, 0, 1)", "areAlike(#, 0, 0)");
        badBars(lively(), "areAlike(0, #, 1)", "areAlike(0, 1, #)", "areAlike(0, #, #)");
        eight().throwingEach("areAlike(0, 0, #)", TestRun.INDEX, -1, 8)
                .throwingEach("areAlike(0, #, 0)", TestRun.INDEX, -1, 8);
    }

    // ---- promise 26 ----

    private static void wouldClash() {
        TestSentence.sentence(26,
                "Returns the clashes that a bar would have if all signs of a sister in it were higher by some floors.");
        TestRun far = three().and("quarrel(0, 1, 0)").and(stand(0, 0, 0)).and(stand(1, 0, 4));
        far.answersRow("wouldClash(0, 0, #)", 0, 0, 0, 0, 8).answersRow("wouldClash(1, 0, -#)", 0, 0, 0, 0, 8);
        far.answersRow("wouldClash(2, 0, #)", 0, 0, 0, 0, 0).answersEach("wouldClash(0, 1, #)", 0, -4, 4);
        TestRun all = allQuarrel(eight(), 0).and(stand(0, 7, 2)).and(stand(1, 7, 2)).and(stand(2, 7, 2))
                .and(stand(3, 7, 2));
        all.answersEach("wouldClash(#, 7, 0)", 48, 0, 1, 2, 3).answersEach("wouldClash(#, 7, -2)", 24, 0, 3)
                .answersEach("wouldClash(#, 7, 2)", 24, 0, 3).answers("clashes(7)", 48);
        TestRun beats = three().and("quarrel(2, 3, 0)").and(walk(2, 0, 1, 2, 2, 2, 2, 2, 2, 3))
                .and(walk(3, 0, 2, 1, 1, 1, 1, 1, 1, 4));
        beats.answers("wouldClash(2, 0, 1)", 2).answers("wouldClash(2, 0, -1)", 6).answers("wouldClash(2, 0, 0)", 0);
        beats.answers("wouldClash(3, 0, -1)", 2).answersEach("wouldClash(3, 0, #)", 0, 0);
        TestRun stairs = three().and("quarrel(0, 3, 0)", "stair(0, 0, 1, 4, true)", "step(3, 0, 3, 4)");
        stairs.answers("wouldClash(0, 0, 1)", 2).answers("wouldClash(0, 0, 2)", 2).answers("wouldClash(0, 0, 0)", 0)
                .answers("wouldClash(3, 0, -1)", 2).answers("wouldClash(3, 0, -2)", 2)
                .answers("wouldClash(3, 0, -3)", 0);
        TestSentence.sentence(26,
                "the quarrel lasts in this bar and in all later ones ahead of the bar in which it ends");
        TestRun bars = three().and("quarrel(0, 1, 1)", "end(0, 1, 2)");
        for (int bar = 0; bar < 3; bar++) {
            bars = bars.and("step(0, " + bar + ", 0, 4)", "step(1, " + bar + ", 1, 4)");
        }
        bars.answersRow("wouldClash(0, #, 1)", 0, 4, 0).answersRow("wouldClash(1, #, -1)", 0, 4, 0);
        TestSentence.sentence(26, "A rest on tiptoe lasts for 1 to 4 beats, and does not sound.");
        TestRun rests = three().and("quarrel(0, 1, 0)").and(restAll(0, 0)).and(stand(1, 0, 0));
        rests.answersEach("wouldClash(0, 0, #)", 0, -4, -1, 0, 1, 2, 4).answersEach("wouldClash(1, 0, #)", 0, 0, 1, 4);
        TestSentence.sentence(26, "Who is nowhere does not sound.");
        three().and("quarrel(0, 1, 0)").and(stand(1, 0, 3)).answersEach("wouldClash(0, 0, #)", 0, -4, 0, 1, 4);
        three().and("quarrel(0, 1, 0)").answersEach("wouldClash(0, 0, #)", 0, -4, 0, 1, 4);
        TestRun others = three().and("quarrel(2, 3, 0)", "step(2, 0, 1, 3)", "step(3, 0, 1, 2)");
        others.answersEach("wouldClash(0, 0, #)", 2, -4, -1, 0, 1, 4);
    }

    private static void wouldClashOutside() {
        TestSentence.sentence(26, "Throws `IndexOutOfBoundsException` if there is no such sister or bar");
        badSisters(lively(), "wouldClash(#, 0, 0)");
        badBars(lively(), "wouldClash(0, #, 0)");
        eight().throwingEach("wouldClash(0, #, 4)", TestRun.INDEX, -1, 8);
        TestSentence.sentence(26, "by how many floors, -4 to 4, below 0 for lower");
        three().answersEach("wouldClash(0, 2, #)", 0, -4, -3, -2, -1, 0, 1, 2, 3, 4);
        TestSentence.sentence(26, "Throws `IllegalArgumentException` if the number is out of range");
        lively().throwingEach("wouldClash(0, 0, #)", TestRun.ARGUMENT, -5, 5, MIN, MAX)
                .throwingEach("wouldClash(1, 1, #)", TestRun.ARGUMENT, -5, 5, MIN, MAX);
        TestSentence.sentence(26, "Throws `NoSuchElementException` if one of them would leave the house");
        TestRun house = three().and("step(0, 0, 0, 1)", "step(1, 0, 4, 1)", "stair(2, 0, 3, 2, true)",
                "stair(3, 0, 1, 2, false)");
        house.answersEach("wouldClash(0, 0, #)", 0, 0, 1, 4)
                .throwingEach("wouldClash(0, 0, #)", TestRun.ELEMENT, -4, -1);
        house.answersEach("wouldClash(1, 0, #)", 0, 0, -1, -4)
                .throwingEach("wouldClash(1, 0, #)", TestRun.ELEMENT, 4, 1);
        house.answersEach("wouldClash(2, 0, #)", 0, 0, -1, -3)
                .throwingEach("wouldClash(2, 0, #)", TestRun.ELEMENT, 4, 1, -4);
        house.answersEach("wouldClash(3, 0, #)", 0, 0, 1, 3)
                .throwingEach("wouldClash(3, 0, #)", TestRun.ELEMENT, -4, -1, 4);
        TestRun one = eight().and(walk(3, 7, 1, 2, 2, 2, 2, 2, 2, 3));
        one.answersEach("wouldClash(3, 7, #)", 0, -1, 0, 1).throwingEach("wouldClash(3, 7, #)", TestRun.ELEMENT, -2, 2);
        TestRun back = eight().and(walk(3, 7, 3, 2, 2, 2, 2, 2, 2, 1));
        back.answersEach("wouldClash(3, 7, #)", 0, -1, 0, 1)
                .throwingEach("wouldClash(3, 7, #)", TestRun.ELEMENT, -2, 2);
        TestSentence.sentence(26, "If several conditions of a method are fulfilled, the one that is listed first "
                + "determines the exception.");
        badSisters(house, "wouldClash(#, 0, 5)", "wouldClash(#, 3, -5)", "wouldClash(#, 0, 4)");
        badBars(house, "wouldClash(0, #, 5)", "wouldClash(0, #, -5)", "wouldClash(0, #, -4)");
        house.throwingEach("wouldClash(0, 0, #)", TestRun.ARGUMENT, -5, 5, MIN, MAX)
                .throwingEach("wouldClash(1, 0, #)", TestRun.ARGUMENT, -5, 5, MIN, MAX);
    }

    // ---- promise 27 ----

    private static void bestShift() {
        TestSentence.sentence(27, "Returns by how many floors all signs of a sister in a bar should be higher, "
                + "so that it would have the fewest clashes and none would leave the house");
        TestRun up = three().and("quarrel(0, 1, 0)").and(stand(0, 0, 0)).and(walk(1, 0, 0, 1, 2, 3));
        up.answers("bestShift(0, 0)", 4).and("step(1, 0, 4, 1)").answers("bestShift(0, 0)", 0);
        TestRun down = three().and("quarrel(0, 1, 0)").and(stand(0, 0, 4)).and(walk(1, 0, 4, 3, 2, 1));
        down.answers("bestShift(0, 0)", -4).and("step(1, 0, 0, 1)").answers("bestShift(0, 0)", 0);
        three().and("quarrel(0, 1, 0)").and(stand(0, 0, 1)).and(walk(1, 0, 0, 1, 2, 3)).answers("bestShift(0, 0)", 3);
        three().and("quarrel(0, 1, 0)").and(stand(0, 0, 3)).and(walk(1, 0, 1, 2, 3, 4)).answers("bestShift(0, 0)", -3);
        three().and("quarrel(0, 1, 0)").and(stand(0, 0, 2)).and(walk(1, 0, 0, 1, 2, 3)).answers("bestShift(0, 0)", 2);
        three().and("quarrel(0, 1, 0)").and(stand(0, 0, 2)).and(walk(1, 0, 1, 2, 3, 4)).answers("bestShift(0, 0)", -2);
        TestRun fewest = three().and("quarrel(0, 1, 0)", "quarrel(0, 2, 0)").and(stand(0, 0, 0))
                .and(walk(1, 0, 0, 0, 0, 1, 1, 2, 3, 3))
                .and(stand(2, 0, 4));
        fewest.answers("bestShift(0, 0)", 2).answers("wouldClash(0, 0, 2)", 1);
        three().and("quarrel(0, 1, 0)").and(stand(0, 0, 0)).and(walk(1, 0, 0, 0, 0, 2, 2, 3, 3, 1))
                .and("quarrel(0, 3, 0)")
                .and(stand(3, 0, 4)).answers("bestShift(0, 0)", 1);
        TestSentence.sentence(27, "Behind her last sign a sister is nowhere.");
        allQuarrel(three(), 0).answersEach("bestShift(#, 0)", 0, 0, 1, 2, 3);
        TestRun others = allQuarrel(three(), 0).and(stand(1, 0, 2)).and(stand(2, 0, 2));
        others.answersEach("bestShift(#, 0)", 0, 0, 3).and(restAll(0, 0)).answers("bestShift(0, 0)", 0);
        TestSentence.sentence(27, "a beat of a bar in which two sisters who quarrel in it sound on one floor");
        TestRun apart = three().and(stand(0, 0, 2)).and(stand(1, 0, 2)).and("quarrel(0, 1, 1)");
        apart.answersRow("bestShift(0, #)", 0, 0, 0).and(stand(0, 1, 2)).and(stand(1, 1, 2))
                .answersRow("bestShift(0, #)", 0, -1, 0);
    }

    private static void bestShiftTies() {
        TestSentence.sentence(27, "of several numbers the nearest to 0, of two as near the one below 0");
        for (int sister = 0; sister < 2; sister++) {
            TestRun both = eight().and("quarrel(0, 1, 7)").and(stand(0, 7, 2)).and(stand(1, 7, 2));
            both.answers("bestShift(" + sister + ", 7)", -1);
        }
        TestRun middle = three().and("quarrel(0, 1, 0)", "quarrel(0, 2, 0)", "quarrel(0, 3, 0)").and(stand(0, 0, 2))
                .and(stand(1, 0, 2));
        middle.and(stand(2, 0, 1)).answers("bestShift(0, 0)", 1).and(stand(3, 0, 3)).answers("bestShift(0, 0)", -2);
        middle.and(stand(2, 0, 3)).answers("bestShift(0, 0)", -1);
        TestRun clear = three().and("quarrel(0, 1, 0)").and(stand(0, 0, 2)).and(stand(1, 0, 1));
        clear.answers("bestShift(0, 0)", 0).answers("bestShift(1, 0)", 0);
        TestRun even = three().and("quarrel(0, 1, 0)").and(stand(0, 0, 2));
        even.and(walk(1, 0, 2, 1, 3, 0, 4)).answers("bestShift(0, 0)", 0);
        even.and(walk(1, 0, 2, 1, 3, 0, 4, 2)).answers("bestShift(0, 0)", -1);
        even.and(walk(1, 0, 2, 1, 3, 0, 4, 2, 1)).answers("bestShift(0, 0)", 1);
        even.and(walk(1, 0, 2, 1, 3, 0, 4, 2, 1, 3)).answers("bestShift(0, 0)", -2);
        even.and(walk(1, 0, 2, 2, 1, 1, 3, 3, 0, 4)).answers("bestShift(0, 0)", -2);
        even.and(walk(1, 0, 2, 2, 1, 1, 3, 3, 0, 0)).answers("bestShift(0, 0)", 2);
    }

    private static void bestShiftInside() {
        TestSentence.sentence(27, "and none would leave the house");
        TestRun low = three().and("quarrel(0, 1, 0)").and(stand(0, 0, 0)).and(stand(1, 0, 0));
        low.answers("bestShift(0, 0)", 1).answers("bestShift(1, 0)", 1);
        TestRun high = three().and("quarrel(0, 1, 0)").and(stand(0, 0, 4)).and(stand(1, 0, 4));
        high.answers("bestShift(0, 0)", -1).answers("bestShift(1, 0)", -1);
        TestRun wide = three().and("quarrel(0, 1, 0)").and(walk(0, 0, 0, 2, 2, 2, 2, 2, 2, 4)).and(stand(1, 0, 2));
        wide.answers("bestShift(0, 0)", 0).answers("clashes(0)", 6);
        TestRun stairUp = three().and("quarrel(0, 1, 0)", "stair(0, 0, 3, 2, true)", "step(1, 0, 3, 1)",
                "step(1, 0, 4, 1)");
        stairUp.answers("bestShift(0, 0)", -1).and("quarrel(0, 2, 0)", "step(2, 0, 2, 1)")
                .answers("bestShift(0, 0)", -2);
        TestRun stairDown = three().and("quarrel(0, 1, 0)", "stair(0, 0, 1, 2, false)", "step(1, 0, 1, 1)",
                "step(1, 0, 0, 1)");
        stairDown.answers("bestShift(0, 0)", 1).and("quarrel(0, 2, 0)", "step(2, 0, 2, 1)")
                .answers("bestShift(0, 0)", 2);
        TestSentence.sentence(27, "Throws `IndexOutOfBoundsException` if there is no such sister or bar");
        badSisters(lively(), "bestShift(#, 0)", "bestShift(#, 3)");
        badBars(lively(), "bestShift(0, #)", "bestShift(3, #)");
        eight().throwingEach("bestShift(0, #)", TestRun.INDEX, -1, 8);
    }

    // ---- promise 28 ----

    /** Four bars, whose steps are 9 0 6 6, clashes 1 0 3 2, lacked beats 23 12 22 26, pairs 1 3 3 1. */
    private static TestRun measured() {
        return TestRun.after(TestRun.bars(4)).and(stand(0, 0, 2)).and("step(1, 0, 2, 1)", "rest(0, 1, 4)")
                .and(restAll(1, 1))
                .and(restAll(2, 1)).and("step(0, 2, 2, 3)", "step(1, 2, 2, 3)", "rest(3, 2, 4)", "step(0, 3, 2, 4)",
                "step(2, 3, 2, 2)", "quarrel(0, 1, 0)", "end(0, 1, 3)", "quarrel(0, 2, 1)", "quarrel(2, 3, 1)",
                "end(2, 3, 3)");
    }

    private static void ranked() {
        TestSentence.sentence(28, "Returns a bar by a measure: the greatest first, of several the lowest.");
        measured().answersRow("steps(#)", 9, 0, 6, 6).answersRow("ranked(0, #)", 0, 2, 3, 1);
        for (int measure = 0; measure < 4; measure++) {
            eight().answersRow("ranked(" + measure + ", #)", 0, 1, 2, 3, 4, 5, 6, 7);
            TestRun.after("b").answers("ranked(" + measure + ", 0)", 0);
        }
        eight().and("step(3, 7, 4, 1)").answersRow("ranked(0, #)", 7, 0, 1, 2, 3, 4, 5, 6);
        eight().and("step(3, 7, 4, 1)", "step(0, 6, 4, 1)", "step(1, 1, 0, 1)")
                .answersRow("ranked(0, #)", 1, 6, 7, 0, 2, 3, 4, 5);
        TestRun rising = eight();
        for (int bar = 0; bar < 8; bar++) {
            rising = rising.and(walk(0, bar, new int[bar + 1]));
        }
        rising.answersRow("ranked(0, #)", 7, 6, 5, 4, 3, 2, 1, 0).answersRow("ranked(2, #)", 0, 1, 2, 3, 4, 5, 6, 7);
        TestSentence.sentence(28, "1 for its clashes");
        measured().answersRow("clashes(#)", 1, 0, 3, 2).answersRow("ranked(1, #)", 2, 3, 0, 1);
        TestSentence.sentence(28, "2 for the beats that all sisters lack in it");
        measured().answersRow("ranked(2, #)", 3, 0, 2, 1);
        eight().and("rest(3, 0, 1)").answersRow("ranked(2, #)", 1, 2, 3, 4, 5, 6, 7, 0);
        TestRun full = three().and(stand(0, 1, 0)).and(stand(1, 1, 0)).and(stand(2, 1, 0)).and(restAll(3, 1));
        full.answersRow("ranked(2, #)", 0, 2, 1).answersRow("ranked(0, #)", 1, 0, 2);
        TestSentence.sentence(28, "3 for the pairs in its key");
        measured().answersRow("key(#)", 1, 35, 35, 2).answersRow("ranked(3, #)", 1, 2, 0, 3);
        three().and("quarrel(2, 3, 0)", "end(2, 3, 1)", "quarrel(0, 1, 1)", "quarrel(0, 2, 1)")
                .answersRow("ranked(3, #)", 1, 2, 0);
        allQuarrel(eight(), 7).answersRow("ranked(3, #)", 7, 0, 1, 2, 3, 4, 5, 6);
        TestSentence.sentence(28, "a later bar than the next one; then the bars between are not played");
        measured().and("coda(0, 3)").answersRow("ranked(0, #)", 0, 2, 3, 1).answersRow("ranked(1, #)", 2, 3, 0, 1);
    }

    private static void rankedOutside() {
        TestSentence.sentence(28, "Throws `IllegalArgumentException` if there is no such measure");
        lively().throwingEach("ranked(#, 0)", TestRun.ARGUMENT, -1, 4, MIN, MAX)
                .throwingEach("ranked(#, 2)", TestRun.ARGUMENT, -1, 4);
        TestSentence.sentence(28, "Throws `NoSuchElementException` if there is no such place");
        for (int measure = 0; measure < 4; measure++) {
            lively().throwingEach("ranked(" + measure + ", #)", TestRun.ELEMENT, -1, 3, 8, MIN, MAX);
            eight().throwingEach("ranked(" + measure + ", #)", TestRun.ELEMENT, -1, 8);
        }
        TestSentence.sentence(28, "If several conditions of a method are fulfilled, the one that is listed first "
                + "determines the exception.");
        lively().throwingEach("ranked(#, 3)", TestRun.ARGUMENT, -1, 4, MIN, MAX)
                .throwingEach("ranked(#, -1)", TestRun.ARGUMENT, -1, 4);
    }

    // ---- all of them ----

    private static void asking() {
        TestRun house = lively().and("save()", "!noCoda()", "coda(0, 2)", "undo()", "bar()", "quarrel(0, 2, 0)", "!b;",
                "line(0, 0)", "append(98)");
        String[] calls = {"floorAt(0, 0, 0)", "sounding(0, 0)", "signOf(0, 0, 1, 2)", "lacking(0, 0)", "steps(0)",
            "stepsAgain(2)", "stepsOf(0)", "key(0)", "clashes(0)", "clashesAgain(0)", "beatsOn(3, 2, 0)",
            "fullest(0, 0)",
            "played(1)", "playedSteps()", "areAlike(0, 0, 2)", "wouldClash(0, 0, 1)", "bestShift(0, 0)",
            "ranked(2, 1)"};
        for (int number = 0; number < calls.length; number++) {
            TestSentence.sentence(11 + number, "What can be undone are the successful calls of bar, step, rest, stair, "
                    + "takeBack, quarrel, end, coda, noCoda and commands.");
            house.leavesAll(calls[number]);
        }
    }
}
