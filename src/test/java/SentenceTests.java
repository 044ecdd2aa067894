/**
 * The sentences of the document that name no boundary, from its first line to its last: what each call does
 * with ordinary inputs. Those that name one have their tests in the files that end in EdgeTests.
 */
public final class SentenceTests {
    private static final int MOST_CALLS = 512;

    private SentenceTests() {
    }

    public static void main(String[] args) {
        calls();
        rows();
        adding();
        stairs();
        refusing();
        quarrels();
        codas();
        beats();
        signs();
        steps();
        keysAndClashes();
        shifts();
        orders();
        texts();
        lines();
        quotients();
        backwards();
        TestSentence.finish(1, 41);
    }

    /** Three bars with signs and quarrels, without a coda. */
    private static TestRun filled() {
        return TestRun.after("b;b;b", "s00@2*4;r00*1;u00@1*2;d10@3*4;s10@2*3;r20*2;s20@4*1;s30@2*3",
                "s01@0*4;s01@0*4;u32@0*4;d32@4*4", "q010;q130;e311;q322");
    }

    /** Where each of the sisters sounds in the bar 0 of filled(). */
    private static int[][] floors() {
        return new int[][] {
            {2, 2, 2, 2, -1, 1, 2, -1},
            {3, 3, 2, 2, 2, 2, 2, -1},
            {-1, -1, 4, -1, -1, -1, -1, -1},
            {2, 2, 2, -1, -1, -1, -1, -1},
        };
    }

    // ---- the object and its terms ----

    private static void calls() {
        TestSentence.sentence(1, "An object is used for at most 512 calls after it has been made");
        TestRun run = TestRun.after("bar()");
        for (int call = 2; call < MOST_CALLS; call += 2) {
            run = run.and("step(3, 0, 4, 4)", "takeBack(3, 0)");
        }
        run.answers("account(8)", MOST_CALLS / 2 - 1).answers("account(9)", 8).answers("account(0)", 1);
        run.answers("undo()", 7).answers("step(3, 0, 4, 4)", 4).answers("append(98)", 1).answers("save()", 1);
        TestRun refused = TestRun.after();
        TestRun typed = TestRun.after();
        for (int call = 1; call < MOST_CALLS; call++) {
            refused = refused.and("!noCoda()");
            typed = typed.and(call <= 60 ? "append(98)" : "!append(98)");
        }
        refused.answers("reason(0)", 12).answers("bar()", 0);
        typed.answers("account(10)", 60);
    }

    private static void rows() {
        TestSentence.sentence(3,
                "In each bar, each sister has a row of signs, one behind the other from the beat 0 on");
        TestRun rows = TestRun.after("b;b", "s00@0*2;s10@1*1;s01@3*1;s00@2*1;s11@4*2;s10@3*3");
        rows.answersRow("floorAt(0, 0, #)", 0, 0, 2, -1, -1, -1, -1, -1);
        rows.answersRow("floorAt(1, 0, #)", 1, 3, 3, 3, -1, -1, -1, -1);
        rows.answersRow("floorAt(0, 1, #)", 3, -1, -1, -1, -1, -1, -1, -1);
        rows.answersRow("floorAt(1, 1, #)", 4, 4, -1, -1, -1, -1, -1, -1);
        rows.answersEach("signOf(#, 0, 0, 2)", 0, 0, 1).answersEach("signOf(#, 1, 0, 2)", 0, 0, 1)
                .answers("signOf(0, 0, 1, 2)", 2).answers("signOf(1, 0, 1, 2)", 1);
        TestSentence.sentence(4, "In each bar, each sister has a row of signs");
        rows.and("rest(0, 0, 4)", "step(0, 0, 4, 1)").answersRow("floorAt(0, 0, #)", 0, 0, 2, -1, -1, -1, -1, 4);
        TestSentence.sentence(3, "floors 0 to 4, where 0 is the lowest one");
        rows.answers("stair(2, 0, 0, 2, true)", 6).answers("stair(2, 0, 4, 2, false)", 6)
                .refuses("stair(2, 0, 0, 2, false)", 5, 0).refuses("stair(2, 0, 4, 2, true)", 5, 4);
    }

    // ---- promises 2 to 6 ----

    private static void adding() {
        TestSentence.sentence(2, "Adds a bar without signs.");
        filled().answers("bar()", 3).and("bar()").answersEach("lacking(#, 3)", 8, 0, 1, 2, 3).answers("account(1)", 12);
        String left = "Returns how many beats are left to the sister in the bar then.";
        TestSentence.sentence(3, left);
        filled().answers("step(2, 0, 0, 3)", 2).answers("step(0, 2, 0, 3)", 5).answers("step(0, 0, 4, 1)", 0);
        TestSentence.sentence(3, "Adds a step behind the signs of a sister in a bar.");
        filled().and("step(2, 0, 0, 3)").answersRow("floorAt(2, 0, #)", -1, -1, 4, 0, 0, 0, -1, -1)
                .answers("signOf(2, 0, 2, 0)", 0).answers("signOf(2, 0, 2, 1)", 3).answers("signOf(2, 0, 2, 2)", 3)
                .answers("signOf(2, 0, 2, 3)", 0).answers("account(1)", 13).answers("account(9)", 5);
        TestSentence.sentence(3, "`length`: for how many beats it lasts");
        for (int length = 1; length <= 4; length++) {
            filled().and("step(3, 1, 2, " + length + ")").answers("lacking(3, 1)", 8 - length)
                    .answers("signOf(3, 1, 0, 1)", length).answers("beatsOn(3, 1, 2)", (1 << length) - 1);
        }
        TestSentence.sentence(4, left);
        filled().answers("rest(2, 0, 3)", 2).answers("rest(0, 2, 3)", 5).answers("rest(0, 0, 1)", 0);
        TestSentence.sentence(4, "Adds a rest likewise.");
        filled().and("rest(3, 0, 2)", "step(3, 0, 0, 1)").answersRow("floorAt(3, 0, #)", 2, 2, 2, -1, -1, 0, -1, -1)
                .answers("signOf(3, 0, 1, 0)", 1).answers("signOf(3, 0, 1, 1)", 2).answers("signOf(3, 0, 1, 2)", 3)
                .answers("signOf(3, 0, 1, 3)", -1).answers("account(1)", 14);
        TestSentence.sentence(5, left);
        filled().answers("stair(2, 0, 0, 4, true)", 1).answers("stair(2, 0, 1, 2, false)", 3);
        TestSentence.sentence(6, "Takes the last sign of a sister in a bar away.");
        filled().answers("takeBack(1, 0)", 3).answers("takeBack(2, 0)", 1).answers("takeBack(3, 2)", 4)
                .and("takeBack(0, 0)").answersRow("floorAt(0, 0, #)", 2, 2, 2, 2, -1, -1, -1, -1)
                .answers("lacking(0, 0)", 3).answers("account(1)", 11).answers("takeBack(0, 0)", 1);
    }

    private static void stairs() {
        TestSentence.sentence(5, "Adds a stair likewise.");
        TestRun up = filled().and("stair(2, 0, 0, 4, true)");
        up.answersRow("floorAt(2, 0, #)", -1, -1, 4, 0, 0, 1, 1, -1).answers("signOf(2, 0, 2, 0)", 2)
                .answers("signOf(2, 0, 2, 1)", 4).answers("signOf(2, 0, 2, 2)", 3).answers("account(1)", 13);
        TestSentence.sentence(5, "`floor`: the floor on which it begins");
        for (int floor = 1; floor < 4; floor++) {
            filled().and("stair(1, 1, " + floor + ", 2, true)").answersRow("floorAt(1, 1, #)", floor, floor + 1, -1)
                    .answers("signOf(1, 1, 0, 3)", floor);
            filled().and("stair(1, 1, " + floor + ", 2, false)").answersRow("floorAt(1, 1, #)", floor, floor - 1, -1)
                    .answers("signOf(1, 1, 0, 3)", floor);
        }
        TestSentence.sentence(5, "`isUp`: whether it goes up");
        up.and("stair(0, 2, 2, 4, true)").answersRow("floorAt(0, 2, #)", 2, 2, 3, 3, -1)
                .answers("signOf(0, 2, 0, 0)", 2);
        up.and("stair(0, 2, 2, 4, false)").answersRow("floorAt(0, 2, #)", 2, 2, 1, 1, -1)
                .answers("signOf(0, 2, 0, 0)", 3);
    }

    /** Each reason is refused with its exception, and kept when other calls succeed behind it. */
    private static void refusing() {
        TestRun eight = TestRun.after(TestRun.bars(8));
        String refused = "Throws `UnsupportedOperationException` if it is refused for the reason ";
        TestSentence.sentence(2, refused + "2; the reason is kept");
        keeps(eight, "bar()", 2, 8);
        TestSentence.sentence(3, refused + "1, for the sister, the floor or the length, 3 or 4; the reason is kept");
        keeps(filled(), "step(4, 0, 0, 1)", 1, 0);
        keeps(filled(), "step(0, 3, 0, 1)", 3, 3);
        keeps(filled(), "step(0, 0, 0, 2)", 4, 1);
        TestSentence.sentence(4, refused + "1, for the sister or the length, 3 or 4; the reason is kept");
        keeps(filled(), "rest(0, 0, 5)", 1, 0);
        keeps(filled(), "rest(0, 4, 1)", 3, 3);
        keeps(filled(), "rest(1, 0, 4)", 4, 1);
        TestSentence.sentence(5,
                refused + "1, for the sister, the floor or the length, 5, 3 or 4; the reason is kept");
        keeps(filled(), "stair(0, 1, 0, 3, true)", 1, 0);
        keeps(filled(), "stair(0, 1, 4, 2, true)", 5, 4);
        keeps(filled(), "stair(0, 3, 3, 2, true)", 3, 3);
        keeps(filled(), "stair(0, 1, 3, 2, true)", 4, 0);
        TestSentence.sentence(6, refused + "1, for the sister, 3 or 6; the reason is kept");
        keeps(filled(), "takeBack(4, 0)", 1, 0);
        keeps(filled(), "takeBack(0, 3)", 3, 3);
        keeps(filled(), "takeBack(1, 2)", 6, 2);
        TestSentence.sentence(7, refused + "1, for the sisters, 7, 3 or 8; the reason is kept");
        keeps(filled(), "quarrel(0, 4, 0)", 1, 0);
        keeps(filled(), "quarrel(2, 2, 0)", 7, 2);
        keeps(filled(), "quarrel(0, 2, 3)", 3, 3);
        keeps(filled(), "quarrel(3, 2, 0)", 8, 2);
        TestSentence.sentence(8, refused + "1, for the sisters or the bar, 7, 9 or 10; the reason is kept");
        keeps(filled(), "end(0, 1, 9)", 1, 0);
        keeps(filled(), "end(3, 3, 1)", 7, 3);
        keeps(filled(), "end(0, 2, 1)", 9, 0);
        keeps(filled(), "end(2, 3, 2)", 10, 2);
        TestSentence.sentence(9, refused + "3, for either, or 11; the reason is kept");
        keeps(filled(), "coda(0, 3)", 3, 3);
        keeps(filled(), "coda(1, 2)", 11, 2);
        TestSentence.sentence(10, refused + "12; the reason is kept");
        keeps(filled(), "noCoda()", 12, 0);
    }

    private static void keeps(TestRun house, String call, int reason, int detail) {
        house.refuses(call, reason, detail);
        house.and("!" + call, "save()", "undo()", "b", "restore()", "line(0, 0)", "!b;")
                .answersRow("reason(#)", reason, detail, 0);
    }

    // ---- promises 7 to 10 ----

    private static void quarrels() {
        TestSentence.sentence(7, "Lets two sisters quarrel from a bar on.");
        filled().and("quarrel(2, 0, 1)").answersRow("key(#)", 17, 3, 35).answers("account(4)", 4);
        TestSentence.sentence(18,
                "Two sisters can quarrel from a bar on; the quarrel lasts in this bar and in all later ones");
        filled().and("quarrel(2, 1, 1)").answersRow("key(#)", 17, 9, 41).and("b").answers("key(3)", 41);
        TestSentence.sentence(7, "`other`: the other sister");
        filled().answers("quarrel(2, 0, 1)", 3).answers("quarrel(0, 2, 1)", 3);
        filled().and("quarrel(2, 0, 1)").isAs(filled().and("quarrel(0, 2, 1)"));
        TestSentence.sentence(8, "Tells the bar in which the quarrel of two sisters ends.");
        filled().answers("end(0, 1, 2)", 2).and("end(0, 1, 2)").answersRow("key(#)", 17, 1, 32)
                .answers("account(4)", 3).answers("account(9)", 5);
        TestSentence.sentence(8, "`other`: the other sister");
        filled().answers("end(1, 0, 2)", 2).and("end(1, 0, 2)").isAs(filled().and("end(0, 1, 2)"));
        TestSentence.sentence(8, "Returns in how many bars that are there they quarrel then.");
        filled().answers("end(1, 3, 3)", 3).answers("end(1, 3, 2)", 2).answers("end(2, 3, 6)", 1);
    }

    private static void codas() {
        TestRun five = filled().and("b;b");
        TestSentence.sentence(9, "Tells the coda.");
        five.and("coda(0, 3)").answers("account(6)", 0).answers("account(7)", 3).answers("account(9)", 6);
        TestSentence.sentence(9, "`bar`: the bar behind which is jumped");
        five.and("coda(0, 3)").answersRow("played(#)", 0, 3, 4);
        five.and("coda(1, 3)").answersRow("played(#)", 0, 1, 3, 4);
        TestSentence.sentence(9, "`to`: the coda");
        five.and("coda(1, 4)").answersRow("played(#)", 0, 1, 4);
        TestSentence.sentence(9, "Returns how many bars are played then.");
        five.answers("coda(0, 3)", 3).answers("coda(1, 3)", 4).answers("coda(1, 4)", 3).answers("coda(0, 4)", 2);
        TestSentence.sentence(10, "Returns which bar it was.");
        five.and("coda(0, 3)").answers("noCoda()", 3);
        five.and("coda(1, 4)").answers("noCoda()", 4).and("noCoda()").answers("account(5)", 5);
        TestSentence.sentence(23, "Returns a bar as they are played.");
        five.answersRow("played(#)", 0, 1, 2, 3, 4);
        TestSentence.sentence(24, "Returns the steps of all bars that are played, together.");
        five.answers("playedSteps()", 33).and("coda(0, 2)").answers("playedSteps()", 25)
                .and("coda(0, 3)").answers("playedSteps()", 17).and("coda(1, 4)").answers("playedSteps()", 25);
    }

    // ---- promises 11 to 17, 21, 22 and 25 ----

    private static void beats() {
        TestSentence.sentence(11, "Returns where a sister sounds in a beat.");
        for (int sister = 0; sister < 4; sister++) {
            filled().answersRow("floorAt(" + sister + ", 0, #)", floors()[sister]);
        }
        TestSentence.sentence(12, "Returns the sisters who sound in a beat.");
        filled().answersRow("sounding(0, #)", 11, 11, 15, 3, 2, 3, 3, 0);
        filled().answersRow("sounding(1, #)", 1, 1, 1, 1, 1, 1, 1, 1);
        TestSentence.sentence(21, "Returns the beats in which a sister sounds on a floor.");
        filled().answersRow("beatsOn(0, 0, #)", 0, 1 << 5, 0b1001111, 0, 0);
        filled().answersRow("beatsOn(1, 0, #)", 0, 0, 0b1111100, 0b11, 0);
        filled().answersRow("beatsOn(3, 2, #)", 0b11, 0b1100, 0, 0b11000000, 0b110000);
        TestSentence.sentence(22, "Returns the floor on which the most sisters sound in a beat");
        filled().answersRow("fullest(0, #)", 2, 2, 2, 2, 2, 1, 2).answers("fullest(2, 4)", 4);
        TestSentence.sentence(25, "whether in each beat she sounds in both, on the same floor, or in neither.");
        TestRun alike = TestRun.after("b;b;b", "s20@1*2;r20*1;u20@3*2;s21@1*1;s21@1*1;r21*1;s21@3*1;s21@4*1",
                "s22@1*2;s22@1*1;u22@3*2");
        alike.answers("areAlike(2, 0, 1)", true).answers("areAlike(2, 1, 0)", true).answers("areAlike(2, 0, 2)", false)
                .answers("areAlike(2, 2, 1)", false).answers("areAlike(3, 0, 2)", true);
    }

    private static void signs() {
        TestSentence.sentence(13, "Returns a number of a sign.");
        filled().answersRow("signOf(0, 0, 0, #)", 0, 4, 0, 2).answersRow("signOf(0, 0, 1, #)", 1, 1, 4, -1)
                .answersRow("signOf(0, 0, 2, #)", 2, 2, 5, 1).answersRow("signOf(1, 0, 0, #)", 3, 4, 0, 3);
        TestSentence.sentence(13, "`place`: its place in her row, from 0");
        filled().answersRow("signOf(3, 2, #, 3)", 0, 4).answersRow("signOf(3, 2, #, 2)", 0, 4)
                .answersRow("signOf(2, 0, #, 1)", 2, 1);
        TestSentence.sentence(14, "Returns how many beats a sister lacks in a bar until it is full for her.");
        filled().answersRow("lacking(#, 0)", 1, 1, 5, 5).answersRow("lacking(#, 1)", 0, 8, 8, 8)
                .answersRow("lacking(#, 2)", 8, 8, 8, 0);
    }

    private static void steps() {
        String terms = "The steps of a bar are the beats in which a sister sounds, of all sisters together.";
        TestSentence.sentence(15, terms);
        filled().answersRow("steps(#)", 17, 8, 8);
        TestSentence.sentence(16, terms);
        filled().answersRow("stepsAgain(#)", 17, 8, 8);
        TestSentence.sentence(15, "Each bar sums to its sisters' steps.");
        String[] rows = {"s00@2*4;r00*1;u00@1*2", "d10@3*4;s10@2*3", "r20*2;s20@4*1", "s30@2*3"};
        int[] ofSister = {6, 7, 1, 3};
        int sum = 0;
        TestRun bar = TestRun.after("b");
        for (int sister = 0; sister < 4; sister++) {
            TestRun.after("b", rows[sister]).answers("steps(0)", ofSister[sister])
                    .answers("stepsAgain(0)", ofSister[sister]).answers("stepsOf(" + sister + ")", ofSister[sister]);
            bar = bar.and(rows[sister]);
            sum += ofSister[sister];
            bar.answers("steps(0)", sum).answers("stepsAgain(0)", sum).answers("account(2)", sum);
        }
        TestSentence.sentence(15, "Returns the steps of a bar: sign by sign.");
        filled().and("takeBack(0, 0)").answers("steps(0)", 15).and("takeBack(0, 0)").answers("steps(0)", 15)
                .and("takeBack(0, 0)").answers("steps(0)", 11);
        TestSentence.sentence(16, "Returns the same by a second way: beat by beat.");
        filled().and("takeBack(0, 0)").answers("stepsAgain(0)", 15).and("takeBack(0, 0)").answers("stepsAgain(0)", 15)
                .and("takeBack(0, 0)").answers("stepsAgain(0)", 11);
        TestSentence.sentence(17, "in all bars together, played or not.");
        filled().answersRow("stepsOf(#)", 14, 7, 1, 11).and("coda(0, 2)").answersRow("stepsOf(#)", 14, 7, 1, 11);
    }

    // ---- promises 18 to 20 and 26 to 28 ----

    private static void keysAndClashes() {
        String key = "The key of a bar is the set of the pairs that quarrel in it";
        TestSentence.sentence(18, key);
        filled().answersRow("key(#)", 17, 1, 33);
        TestSentence.sentence(18, "Returns the key of a bar.");
        filled().and("b;b").answersRow("key(#)", 17, 1, 33, 33, 33);
        TestSentence.sentence(7, "Returns the key of the bar then.");
        filled().answers("quarrel(0, 3, 0)", 21).answers("quarrel(1, 2, 1)", 9).answers("quarrel(1, 2, 2)", 41);
        String clash = "A clash is a beat of a bar in which two sisters who quarrel in it sound on one floor; "
                + "each pair counts for itself.";
        TestSentence.sentence(19, clash);
        filled().answersRow("clashes(#)", 4, 0, 0).and("quarrel(0, 3, 0)").answersRow("clashes(#)", 7, 0, 0);
        TestSentence.sentence(20, clash);
        filled().answersRow("clashesAgain(#)", 4, 0, 0).and("quarrel(0, 3, 0)").answersRow("clashesAgain(#)", 7, 0, 0);
        TestSentence.sentence(19, "Returns the clashes of a bar: beat by beat.");
        filled().and("s12@0*4").answers("clashes(2)", 0).and("s22@0*4").answers("clashes(2)", 2);
        TestSentence.sentence(20,
                "Returns the same by a second way: pair by pair, by the sets of beats on each floor.");
        TestRun late = filled().and("r22*2;u22@1*4;s22@3*2");
        late.answers("clashes(2)", 4).answers("clashesAgain(2)", 4);
    }

    private static void shifts() {
        TestSentence.sentence(26,
                "Returns the clashes that a bar would have if all signs of a sister in it were higher by some floors.");
        filled().answers("wouldClash(1, 0, 0)", 4).answers("wouldClash(1, 0, -1)", 5).answers("wouldClash(1, 0, 1)", 0)
                .answers("wouldClash(3, 0, 1)", 5).answers("wouldClash(2, 0, -2)", 4);
        TestSentence.sentence(26, "`by`: by how many floors, -4 to 4, below 0 for lower");
        filled().answers("wouldClash(1, 0, -2)", 0).answers("wouldClash(3, 0, -2)", 3);
        TestSentence.sentence(27, "so that it would have the fewest clashes and none would leave the house");
        filled().answersRow("bestShift(#, 0)", -1, 1, 0, -1);
    }

    private static void orders() {
        TestSentence.sentence(28, "Returns a bar by a measure: the greatest first, of several the lowest.");
        TestRun four = filled().and("b", "s11@0*4;s11@0*2");
        four.answersRow("ranked(0, #)", 0, 1, 2, 3);
        TestSentence.sentence(28, "0 for its steps, 1 for its clashes, 2 for the beats that all sisters lack in it, "
                + "3 for the pairs in its key");
        four.answersRow("ranked(1, #)", 1, 0, 2, 3).answersRow("ranked(2, #)", 3, 2, 1, 0)
                .answersRow("ranked(3, #)", 0, 2, 3, 1);
    }

    // ---- promises 29 to 37 ----

    private static void texts() {
        TestSentence.sentence(29, "Appends a character to the text buffer.");
        filled().answers("append(98)", 1).and("append(98)", "append(59)").answers("append(110)", 3)
                .and("append(98)").answers("commands()", 2).and("commands()").answers("account(0)", 5);
        TestSentence.sentence(30, "Carries out the commands in the text buffer, one after the other");
        TestRun.after().tells("b;b;b;q012;s02@1*4;r02*2;u02@0*2;x02;d12@1*4;e018;c0>2;n", 12);
        TestRun.after("b;b;b;q012;s02@1*4;r02*2;u02@0*2;x02;d12@1*4;e018;c0>2;n").answers("account(1)", 3)
                .answers("clashes(2)", 2).answers("account(8)", 1).answers("account(7)", -1).answers("account(9)", 1);
        TestSentence.sentence(31, "Returns the fault position");
        filled().faulty("b;s0", 4).faulty("b;s0@", 4).faulty("z", 0).faulty("", 0);
        TestSentence.sentence(32, "Returns a number of the reason that is kept.");
        filled().refusesText("b;b;s05@1*1;b", 3, 5, 2).refusesText("r00*2", 4, 1, 0).refusesText("x02;b", 6, 2, 0);
    }

    private static void lines() {
        TestSentence.sentence(33, "Writes the row of a sister in a bar, in place of the line before");
        filled().writes("line(0, 0)", "2*4 .*1 1^*2").writes("line(1, 0)", "3v*4 2*3").writes("line(2, 0)", ".*2 4*1")
                .writes("line(3, 2)", "0^*4 4v*4").writes("line(3, 1)", "");
        filled().and("line(0, 0)").writes("line(3, 0)", "2*3");
        TestSentence.sentence(34, "Writes a floor in a bar, in place of the line before");
        filled().writes("staff(0, 2)", "++++11+-").writes("staff(0, 1)", "-----0--").writes("staff(0, 0)", "--------")
                .writes("staff(0, 3)", "11------").writes("staff(0, 4)", "--2-----");
        filled().and("line(0, 0)").writes("staff(2, 4)", "----33--");
        TestSentence.sentence(35, "Returns a character of the line");
        filled().and("line(1, 0)").answers("character(0)", '3').answers("character(7)", '3').and("staff(0, 3)")
                .answers("character(0)", '1').answers("character(7)", '-');
    }

    private static void quotients() {
        String divisions = "Divisions are rounded down, unless something else is told.";
        TestSentence.sentence(36, divisions);
        filled().answers("meanSteps()", 11.0).and("bar()").answers("meanSteps()", 8.25).and("takeBack(2, 0)")
                .answers("meanSteps()", 8.0);
        TestSentence.sentence(36, "Returns the mean of the steps of the bars: the sum divided by their number");
        filled().and("takeBack(2, 0)").answers("meanSteps()", 32.0 / 3.0).and("coda(0, 2)")
                .answers("meanSteps()", 32.0 / 3.0);
        TestSentence.sentence(37, divisions);
        filled().answers("fullShare()", 2.0f / 12.0f).and("rest(1, 0, 1)").answers("fullShare()", 0.25f);
        TestSentence.sentence(37, "Returns what part of the rows of all sisters in all bars is full");
        filled().and("rest(0, 0, 1)", "b").answers("fullShare()", 3.0f / 16.0f).and("takeBack(3, 2)")
                .answers("fullShare()", 0.125f);
    }

    // ---- promises 38 to 41 ----

    private static void backwards() {
        TestSentence.sentence(38, "Returns an account.");
        filled().and("c0>2", "x20").answersRow("account(#)", 3, 11, 32, 4, 3, 2, 0, 2, 1, 6, 0);
        TestSentence.sentence(39, "Undoes the latest call that can be undone.");
        filled().and("x20", "undo()").isAs(filled());
        filled().and("coda(0, 2)", "line(0, 0)", "!b;", "undo()").holdsAs(filled());
        TestSentence.sentence(39, "Returns the number of calls that can still be undone.");
        filled().answers("undo()", 3).and("undo()").answers("undo()", 2);
        TestSentence.sentence(40, "Saves all that can be undone, in place of an earlier snapshot.");
        filled().and("save()", "b;x20", "save()", "undo()", "restore()").holdsAs(filled().and("b;x20"));
        TestSentence.sentence(40, "Returns how many bars there are.");
        filled().answers("save()", 3).and("bar()").answers("save()", 4);
        TestSentence.sentence(41, "Restores what was saved; the snapshot is kept.");
        filled().and("save()", "b;x20", "restore()").holdsAs(filled()).and("b", "restore()").holdsAs(filled());
        TestSentence.sentence(41, "Returns how many bars there are.");
        filled().and("save()", "b;b").answers("restore()", 3);
    }
}
