/** The boundary cases of the promises 38 to 41, sentence by sentence: accounts, undo and the snapshot. */
public final class UndoEdgeTests {
    private static final int MIN = TestRun.MIN;
    private static final int MAX = TestRun.MAX;
    private static final int MOST_UNDONE = 8;

    private UndoEdgeTests() {
    }

    public static void main(String[] args) {
        accountsOfBars();
        accountsOfClashes();
        accountsOfTheCoda();
        accountsOfChanges();
        accountOutside();
        undoOfEach();
        undoCounts();
        undoOfNine();
        undoRefused();
        undoBack();
        undoStays();
        save();
        restore();
        restoreAll();
        restoreKeeps();
        restoreForgets();
        TestSentence.finish(38, 41);
    }

    private static TestRun three() {
        return TestRun.after(TestRun.bars(3));
    }

    private static TestRun eight() {
        return TestRun.after(TestRun.bars(8));
    }

    /** Five bars, with all that a house can hold; six changes. */
    private static TestRun filled() {
        return TestRun.after(TestRun.bars(5), "s00@1*4;r00*1;u00@0*2;d34@4*4", "q010;q231;q021;e012",
                "s10@1*4;s34@1*2;x10;x34",
                "c1>3", "s20@2*1;s30@2*1;s21@2*1;s31@2*1");
    }

    // ---- promise 38 ----

    private static void accountsOfBars() {
        TestSentence.sentence(38, "0 for the bars");
        TestRun.after().answers("account(0)", 0).and("b").answers("account(0)", 1).and(TestRun.bars(7))
                .answers("account(0)", 8)
                .and("!bar()").answers("account(0)", 8).and("undo()").answers("account(0)", 1);
        TestSentence.sentence(38, "1 for the signs");
        TestRun signs = eight();
        signs.answers("account(1)", 0).and("step(3, 7, 0, 1)").answers("account(1)", 1);
        signs.and("rest(3, 7, 4)").answers("account(1)", 1).and("stair(0, 0, 0, 4, true)").answers("account(1)", 2)
                .and("stair(0, 0, 1, 2, false)").answers("account(1)", 3).and("takeBack(3, 7)").answers("account(1)", 2)
                .and("takeBack(0, 0)", "takeBack(0, 0)").answers("account(1)", 0);
        for (int sign = 0; sign < 8; sign++) {
            signs = signs.and("step(0, 0, 4, 1)", "rest(3, 7, 1)");
        }
        signs.answers("account(1)", 16).and("!rest(3, 7, 1)").answers("account(1)", 16);
        TestSentence.sentence(38, "2 for the steps of all bars");
        three().answers("account(2)", 0).and("r00*4;r22*4").answers("account(2)", 0).and("s30@4*3;u11@0*2;s12@0*1")
                .answers("account(2)", 6)
                .and("coda(0, 2)").answers("account(2)", 6).answers("playedSteps()", 4);
        eight().and("s00@0*1;s37@4*2").answers("account(2)", 3).and("coda(0, 7)").answers("account(2)", 3)
                .and("x37").answers("account(2)", 1);
    }

    private static void accountsOfClashes() {
        TestSentence.sentence(38, "3 for the clashes of all bars");
        TestRun met = three().and("s00@1*4;s10@1*3;s01@1*4;s11@1*2;s02@1*4;s12@1*1");
        met.answers("account(3)", 0).and("quarrel(0, 1, 0)").answers("account(3)", 6).and("coda(0, 2)")
                .answers("account(3)", 6);
        met.and("quarrel(0, 1, 0)", "end(0, 1, 2)").answers("account(3)", 5).and("quarrel(0, 2, 0)")
                .answers("account(3)", 5);
        met.and("quarrel(0, 1, 2)").answers("account(3)", 1).and("s20@1*1;s30@1*1;q230").answers("account(3)", 2);
        TestRun last = eight().and("q010;s00@1*1;s10@1*1;s07@4*3;s17@4*2");
        last.answers("account(3)", 3).and("coda(0, 7)").answers("account(3)", 3);
        last.and("x17").answers("account(3)", 1).and("x10").answers("account(3)", 0);
        last.and("end(0, 1, 7)").answers("account(3)", 1).and("end(0, 1, 8)").answers("account(3)", 3);
        TestSentence.sentence(38, "4 for the quarrels");
        TestRun six = eight().answers("account(4)", 0);
        String[] pairs = {"q017", "q020", "q307", "q210", "q137", "q320"};
        for (int pair = 0; pair < pairs.length; pair++) {
            six = six.and(pairs[pair]);
            six.answers("account(4)", pair + 1);
        }
        six.and("!quarrel(0, 1, 0)", "end(1, 2, 1)").answers("account(4)", 6).and("undo()", "undo()")
                .answers("account(4)", 5);
        TestSentence.sentence(38, "Quarrels that have ended count among the quarrels.");
        three().and("q010;e011").answers("account(4)", 1).answers("key(1)", 0).and("q230;e231")
                .answers("account(4)", 2);
        three().and("q012;e013").answers("account(4)", 1).and("!q012").answers("account(4)", 1);
    }

    private static void accountsOfTheCoda() {
        TestSentence.sentence(38, "5 for the bars that are played");
        TestRun.after().answers("account(5)", 0).and("b").answers("account(5)", 1);
        eight().answers("account(5)", 8).and("coda(0, 7)").answers("account(5)", 2).and("coda(5, 7)")
                .answers("account(5)", 7)
                .and("noCoda()").answers("account(5)", 8);
        three().and("coda(0, 2)").answers("account(5)", 2).and("bar()").answers("account(5)", 3);
        TestSentence.sentence(38, "6 for the bar behind which is jumped, -1 without a coda");
        eight().answers("account(6)", -1).and("coda(0, 7)").answers("account(6)", 0).and("coda(5, 7)")
                .answers("account(6)", 5)
                .and("!coda(6, 7)").answers("account(6)", 5).and("noCoda()").answers("account(6)", -1);
        TestSentence.sentence(38, "7 for the coda, -1 for none");
        eight().answers("account(7)", -1).and("coda(0, 7)").answers("account(7)", 7).and("coda(0, 2)")
                .answers("account(7)", 2)
                .and("!coda(6, 7)").answers("account(7)", 2).and("noCoda()").answers("account(7)", -1).and("undo()")
                .answers("account(7)", 2);
    }

    private static void accountsOfChanges() {
        TestSentence.sentence(38, "8 for the signs taken away so far");
        TestRun signs = three().and("s00@1*1;r00*1;u00@0*2;s32@4*4");
        signs.answers("account(8)", 0).and("takeBack(0, 0)").answers("account(8)", 1).and("x00;x32")
                .answers("account(8)", 3)
                .and("!x00;x32").answers("account(8)", 3).and("!takeBack(3, 2)").answers("account(8)", 3)
                .and("s00@1*1;x00").answers("account(8)", 4);
        TestSentence.sentence(38, "9 for the changes that can be undone");
        TestRun changes = TestRun.after();
        changes.answers("account(9)", 0).and("!undo()").answers("account(9)", 0);
        for (int change = 1; change <= 10; change++) {
            changes = changes.and(change <= 8 ? "bar()" : "step(0, 0, 0, 1)");
            changes.answers("account(9)", Math.min(change, MOST_UNDONE));
        }
        changes.and("undo()").answers("account(9)", 7).and("rest(0, 0, 1)").answers("account(9)", 8);
        TestSentence.sentence(38, "10 for the characters in the text buffer");
        three().answers("account(10)", 0).and("append(98)").answers("account(10)", 1).and("commands()")
                .answers("account(10)", 0);
        three().and(TestRun.typed("b;b;".repeat(15))).answers("account(10)", 60).and("!append(98)")
                .answers("account(10)", 60)
                .and("!commands()").answers("account(10)", 0);
    }

    private static void accountOutside() {
        TestSentence.sentence(38, "Throws `IllegalArgumentException` if what is not from 0 to 10");
        filled().and("save()", "append(98)", "line(0, 0)")
                .throwingEach("account(#)", TestRun.ARGUMENT, -1, 11, 12, MIN, MAX);
        TestSentence.sentence(38, "What can be undone are the successful calls of bar, step, rest, stair, takeBack, "
                + "quarrel, end, coda, noCoda and commands.");
        TestRun house = filled().and("save()", "append(98)", "line(0, 0)");
        house.answersRow("account(#)", 5, 8, 14, 1, 3, 4, 1, 3, 2, 6, 1);
        for (int what = 0; what <= 10; what++) {
            house.leavesAll("account(" + what + ")");
        }
    }

    // ---- promise 39 ----

    private static void undoOfEach() {
        TestSentence.sentence(39, "Undoes the latest call that can be undone.");
        String[] changes = {"bar()", "step(1, 0, 0, 4)", "step(3, 4, 4, 2)", "rest(0, 0, 1)", "rest(3, 4, 4)",
            "stair(2, 4, 3, 4, true)", "stair(0, 1, 1, 2, false)", "takeBack(0, 0)", "takeBack(3, 4)",
            "quarrel(1, 2, 4)",
            "quarrel(3, 0, 0)", "end(0, 1, 5)", "end(2, 3, 2)", "end(0, 2, 8)", "coda(0, 4)", "coda(2, 4)",
            "noCoda()", "b", "x00;x00;x00",
            "n;b;b;c0>6;q120;e128;e011;x34;s34@0*4;s34@1*4;s00@0*1"};
        TestRun more = filled().and("save()", "bar()", "takeBack(3, 1)", "rest(1, 1, 4)");
        for (String change : changes) {
            filled().and(change, "undo()").isAs(filled());
            more.and(change, "undo()").holdsAs(more);
        }
        eight().and("coda(0, 2)", "undo()").isAs(eight());
        eight().and("coda(0, 2)", "noCoda()", "undo()").isAs(eight().and("coda(0, 2)"));
        TestRun row = three().and("s00@1*1;r00*1;u00@0*2;d00@4*4");
        row.and("takeBack(0, 0)", "step(0, 0, 2, 4)", "takeBack(0, 0)", "takeBack(0, 0)", "takeBack(0, 0)",
                "step(0, 0, 4, 3)",
                "undo()", "undo()", "undo()", "undo()", "undo()", "undo()").isAs(row);
    }

    private static void undoCounts() {
        TestSentence.sentence(39, "Returns the number of calls that can still be undone.");
        TestRun house = TestRun.after();
        for (int change = 1; change <= MOST_UNDONE; change++) {
            house = house.and("bar()");
            house.answers("undo()", change - 1).and("undo()").answers("account(0)", change - 1);
        }
        TestRun back = house;
        for (int left = MOST_UNDONE - 1; left >= 0; left--) {
            back.answers("undo()", left);
            back = back.and("undo()");
            back.answers("account(0)", left).answers("account(9)", left);
        }
        TestSentence.sentence(39, "Throws `IllegalStateException` if there is none");
        back.throwing("undo()", TestRun.STATE).and("!undo()", "bar()").answers("undo()", 0);
        TestRun.after().throwing("undo()", TestRun.STATE).and("!noCoda()", "!b;", "!n", "save()", "append(98)")
                .throwing("undo()", TestRun.STATE);
        filled().and("undo()", "undo()", "undo()", "undo()", "undo()", "undo()").throwing("undo()", TestRun.STATE);
    }

    /** A house of eight bars, then so many rests of one beat, one in each row. */
    private static TestRun rests(int count) {
        TestRun house = eight();
        for (int change = 0; change < count; change++) {
            house = house.and("rest(" + change % 4 + ", " + change / 4 + ", 1)");
        }
        return house;
    }

    private static TestRun undone(TestRun house, int count) {
        TestRun back = house;
        for (int change = 0; change < count; change++) {
            back = back.and("undo()");
        }
        return back;
    }

    private static void undoOfNine() {
        TestSentence.sentence(39, "What there was before each of the latest 8 is kept");
        int[] counts = {7, 8, 9, 10, 17, 18, 19, 27, 28};
        for (int count : counts) {
            TestRun house = rests(count);
            house.answers("account(9)", MOST_UNDONE);
            for (int undone = 1; undone <= MOST_UNDONE; undone++) {
                boolean isAheadOfRests = undone > count;
                undone(house, undone).answers("account(1)", isAheadOfRests ? 0 : count - undone)
                        .answers("account(9)", MOST_UNDONE - undone).answers("account(0)", isAheadOfRests ? 0 : 8);
            }
            undone(house, MOST_UNDONE).throwing("undo()", TestRun.STATE);
        }
        undone(rests(8), MOST_UNDONE).holdsAs(eight());
        undone(rests(9), MOST_UNDONE).holdsAs(rests(1));
        undone(rests(7), MOST_UNDONE).isAs(TestRun.after());
    }

    private static void undoRefused() {
        TestSentence.sentence(39, "What can be undone are the successful calls of bar, step, rest, stair, takeBack, "
                + "quarrel, end, coda, noCoda and commands.");
        TestRun house = rests(9).and("step(0, 7, 1, 4)", "quarrel(0, 1, 7)", "rest(0, 7, 2)");
        String[] refused = {"!bar()", "!step(0, 7, 1, 4)", "!step(4, 7, 1, 4)", "!rest(0, 7, 4)", "!rest(0, 8, 1)",
            "!stair(0, 7, 1, 4, true)", "!stair(0, 7, 0, 2, false)", "!takeBack(3, 7)", "!quarrel(1, 0, 0)",
            "!quarrel(1, 1, 0)",
            "!end(0, 1, 7)", "!end(2, 3, 8)", "!coda(6, 7)", "!coda(0, 8)", "!noCoda()", "!n", "!x07;x07;x07;x07",
            "!c0>7;e018;q230;b", "!b;",
            "!", "!restore()", "!floorAt(4, 0, 0)", "!played(8)", "!account(11)", "!reason(3)", "!character(0)"};
        for (String call : refused) {
            TestRun between = house.and(call, "rest(0, 7, 1)", call, call);
            between.answers("undo()", 7).isAs(house.and("rest(0, 7, 1)"));
            undone(between, 1).isAs(undone(house.and("rest(0, 7, 1)"), 1)).holdsAs(house);
            undone(between, 7).isAs(undone(house.and("rest(0, 7, 1)"), 7));
            undone(between, 8).isAs(undone(house.and("rest(0, 7, 1)"), 8)).throwing("undo()", TestRun.STATE);
        }
        house.and("save()", "floorAt(0, 0, 0)", "faultPosition()", "playedSteps()", "staff(7, 1)", "append(98)")
                .answers("undo()", 7);
    }

    private static void undoBack() {
        TestSentence.sentence(39, "Returns the number of calls that can still be undone.");
        TestRun house = rests(20);
        TestRun turns = house;
        for (int turn = 0; turn < 12; turn++) {
            turns = turns.and("undo()", "undo()", "step(3, 7, 0, 1)", "takeBack(3, 7)", "undo()", "undo()",
                    "rest(2, 4, 1)", "rest(3, 4, 1)");
            turns.answers("account(9)", 8);
            turns = undone(turns, 2).and("rest(2, 4, 1)", "rest(3, 4, 1)");
        }
        turns.holdsAs(undone(house, 2).and("rest(2, 4, 1)", "rest(3, 4, 1)"));
        undone(turns, 8).holdsAs(undone(house, 8)).throwing("undo()", TestRun.STATE);
        undone(house, 3).and("step(3, 7, 0, 1)").answers("undo()", 5).and("undo()").isAs(undone(house, 3));
        undone(house, 8).and("step(3, 7, 0, 1)").answers("undo()", 0).and("undo()").isAs(undone(house, 8));
    }

    private static void undoStays() {
        TestSentence.sentence(39,
                "The text buffer, the fault position, the reason and the line do not belong to it, and stay.");
        TestRun text = three().and("s00@2*2", "line(0, 0)", "!b;", "!takeBack(0, 2)", "append(98)", "append(59)",
                "takeBack(0, 0)");
        text.and("undo()").answers("account(10)", 2).answers("faultPosition()", 2).answersRow("reason(#)", 6, 2, 0)
                .answers("character(0)", '2');
        text.and("undo()", "undo()", "undo()").answers("account(10)", 2).answers("faultPosition()", 2)
                .answersRow("reason(#)", 6, 2, 0)
                .answers("character(2)", '2').answers("account(0)", 0);
        text.and("append(98)", "undo()").answers("commands()", 2).and("commands()", "undo()", "undo()")
                .answers("account(0)", 3);
    }

    // ---- promise 40 ----

    private static void save() {
        TestSentence.sentence(40, "Returns how many bars there are.");
        TestRun.after().answers("save()", 0).and("b").answers("save()", 1).and(TestRun.bars(7)).answers("save()", 8)
                .and("undo()").answers("save()", 1);
        eight().and("coda(0, 7)").answers("save()", 8);
        TestSentence.sentence(40, "Saves all that can be undone, in place of an earlier snapshot.");
        TestRun twice = filled().and("save()", "bar()", "takeBack(0, 0)", "end(0, 1, 5)", "noCoda()",
                "quarrel(1, 2, 0)", "save()");
        twice.and("undo()", "undo()", "undo()", "restore()").holdsAs(twice);
        twice.and("restore()").answers("restore()", 6).holdsAs(twice);
        TestRun.after("b;b", "save()", "undo()", "save()").answers("restore()", 0);
        TestRun.after("save()", "b;b", "save()", "b").answers("restore()", 2);
        TestSentence.sentence(40, "What can be undone are the successful calls of bar, step, rest, stair, takeBack, "
                + "quarrel, end, coda, noCoda and commands.");
        TestRun saved = filled().and("append(98)", "line(0, 0)", "!end(0, 3, 1)");
        saved.and("save()").answers("account(9)", 6).answers("undo()", 5).isAs(saved);
        saved.and("save()", "undo()").isAs(saved.and("undo()"));
        saved.and("save()").answers("account(10)", 1).answersRow("reason(#)", 9, 0, 0).answers("faultPosition()", -1);
        TestRun.after("save()").throwing("undo()", TestRun.STATE);
        rests(9).and("save()", "save()").answers("undo()", 7).isAs(rests(9));
    }

    // ---- promise 41 ----

    private static void restore() {
        TestSentence.sentence(41, "Throws `IllegalStateException` if there is no snapshot");
        TestRun.after().throwing("restore()", TestRun.STATE);
        filled().and("append(98)", "line(0, 0)", "!end(0, 3, 1)").throwing("restore()", TestRun.STATE)
                .and("!restore()").answers("undo()", 5).throwing("restore()", TestRun.STATE);
        rests(9).throwing("restore()", TestRun.STATE);
        TestSentence.sentence(41, "Returns how many bars there are.");
        TestRun.after("save()", TestRun.bars(8)).answers("restore()", 0);
        TestRun.after("b", "save()", TestRun.bars(7)).answers("restore()", 1);
        eight().and("save()").answers("restore()", 8).and("undo()").answers("restore()", 8).answers("account(0)", 0);
        eight().and("coda(0, 7)", "save()", "noCoda()").answers("restore()", 8).and("restore()")
                .answers("account(5)", 2);
    }

    private static void restoreAll() {
        TestSentence.sentence(41, "Restores what was saved");
        TestRun house = filled().and("save()");
        String[] changes = {"bar()", "step(1, 0, 0, 4)", "rest(0, 0, 1)", "stair(2, 4, 3, 4, true)", "takeBack(3, 4)",
            "quarrel(1, 2, 4)", "end(0, 1, 5)", "end(2, 3, 8)", "coda(0, 4)", "noCoda()",
            "n;b;b;b;c0>7;q120;x34;s34@0*4"};
        for (String change : changes) {
            house.and(change, "restore()").holdsAs(house);
        }
        house.and("undo()", "restore()").holdsAs(house);
        house.and("undo()", "undo()", "undo()", "undo()", "undo()", "undo()", "restore()").holdsAs(house);
        house.and("restore()").holdsAs(house);
        TestRun.after("save()", TestRun.bars(8), "s37@4*4;q010;c0>7;x37", "restore()").isAs(TestRun.after());
        TestRun.after("save()", TestRun.bars(8), "s37@4*4;q010;c0>7;x37;s37@1*1", "restore()", TestRun.bars(8))
                .holdsAs(eight());
        TestSentence.sentence(41,
                "The text buffer, the fault position, the reason and the line do not belong to it, and stay.");
        TestRun text = three().and("save()", "s00@2*2", "line(0, 0)", "!b;", "!takeBack(0, 2)", "append(98)",
                "append(59)", "takeBack(0, 0)");
        text.and("restore()").answers("account(10)", 2).answers("faultPosition()", 2).answersRow("reason(#)", 6, 2, 0)
                .answers("character(2)", '2');
        text.and("append(98)", "restore()").answers("commands()", 2).and("commands()").answers("account(0)", 5);
        TestRun.after("!b;", "append(98)", "save()", "append(59)", "append(98)", "commands()", "!noCoda()",
                "staff(0, 0)", "restore()")
                .answers("account(10)", 0).answers("faultPosition()", -1).answers("reason(0)", 12)
                .answers("character(0)", '-');
    }

    private static void restoreKeeps() {
        TestSentence.sentence(41, "the snapshot is kept");
        TestRun house = filled().and("save()");
        house.and("restore()", "bar()", "takeBack(0, 0)", "noCoda()", "end(0, 1, 5)", "restore()").holdsAs(house);
        house.and("restore()", "takeBack(0, 0)", "undo()", "restore()", "restore()").holdsAs(house);
        house.and("restore()", "x00;x00;x00;s00@4*4", "restore()", "quarrel(1, 2, 0)", "restore()").holdsAs(house)
                .answers("restore()", 5);
        TestRun other = house.and("restore()", "bar()", "save()", "noCoda()", "bar()");
        other.answers("restore()", 6).and("restore()").holdsAs(house.and("bar()"));
    }

    private static void restoreForgets() {
        TestSentence.sentence(41, "What there was before each of the latest 8 is kept; restore forgets it.");
        TestRun house = filled().and("save()", "bar()", "restore()");
        house.answers("account(9)", 0).throwing("undo()", TestRun.STATE).answers("account(0)", 5);
        rests(9).and("save()", "restore()").answers("account(9)", 0).throwing("undo()", TestRun.STATE);
        TestRun.after("save()", "restore()").throwing("undo()", TestRun.STATE);
        for (int changes = 1; changes <= 9; changes++) {
            TestRun more = house;
            for (int change = 0; change < changes; change++) {
                more = more.and(change % 3 == 2 ? "takeBack(2, 4)" : "step(2, 4, " + change % 5 + ", 1)");
            }
            int kept = Math.min(changes, MOST_UNDONE);
            more.answers("account(9)", kept).answers("undo()", kept - 1);
            undone(more, kept).throwing("undo()", TestRun.STATE)
                    .holdsAs(changes <= kept ? house : house.and("step(2, 4, 0, 1)"));
        }
        house.and("bar()", "restore()").answers("account(9)", 0).throwing("undo()", TestRun.STATE);
    }
}
