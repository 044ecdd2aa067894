/** The boundary cases of the promises 2 to 10, sentence by sentence: the calls that change the house. */
public final class ChangeEdgeTests {
    private static final int MIN = TestRun.MIN;
    private static final int MAX = TestRun.MAX;

    private ChangeEdgeTests() {
    }

    public static void main(String[] args) {
        bar();
        step();
        stepReasons();
        rest();
        stair();
        stairReasons();
        takeBack();
        takeBackReasons();
        quarrel();
        quarrelReasons();
        end();
        endTold();
        endReasons();
        coda();
        codaReasons();
        noCoda();
        TestSentence.finish(2, 10);
    }

    private static TestRun three() {
        return TestRun.after(TestRun.bars(3));
    }

    private static TestRun eight() {
        return TestRun.after(TestRun.bars(8));
    }

    // ---- promise 2 ----

    private static void bar() {
        TestSentence.sentence(2, "At most 8 bars are there, numbered from 0 as they come");
        eight().answers("account(0)", 8);
        TestSentence.sentence(2, "Returns its number.");
        TestRun.after().answers("bar()", 0);
        for (int bars = 1; bars < 8; bars++) {
            TestRun.after(TestRun.bars(bars)).answers("bar()", bars);
        }
        TestSentence.sentence(2, "2, there are 8 bars: how many");
        eight().refuses("bar()", 2, 8);
        eight().and("save()", "!bar()", "step(0, 7, 4, 4)").refuses("bar()", 2, 8);
        eight().and("coda(0, 7)").refuses("bar()", 2, 8);
        TestRun.after(TestRun.bars(7), "bar()", "!bar()", "undo()").answers("bar()", 7);
        TestSentence.sentence(2, "Adds a bar without signs.");
        TestRun filled = TestRun.after("b", "s00@1*4;r10*4;u20@1*4;d30@4*4", "s00@1*4;r10*4;u20@1*4;d30@4*4");
        filled.and("bar()").answersEach("lacking(#, 1)", 8, 0, 1, 2, 3).answersEach("lacking(#, 0)", 0, 0, 1, 2, 3);
        TestRun.after("b", "bar()", "step(0, 1, 4, 4)", "rest(0, 1, 4)", "undo()", "undo()", "undo()", "bar()")
                .isAs(TestRun.after("b", "b"));
        TestRun.after("b", "save()", "bar()", "step(0, 1, 4, 4)", "restore()", "bar()")
                .answers("lacking(0, 1)", 8).answers("floorAt(0, 1, 0)", -1).answers("account(1)", 0);
        TestSentence.sentence(2, "if it is refused for the reason 2; the reason is kept");
        eight().and("!bar()", "step(0, 0, 0, 1)", "undo()").answers("reason(0)", 2).answers("reason(1)", 8);
    }

    // ---- promise 3 ----

    private static void step() {
        TestRun house = three();
        TestSentence.sentence(3, "There are the sisters 0 to 3 and the floors 0 to 4");
        house.answersEach("step(#, 0, 0, 1)", 7, 0, 1, 2, 3).answersEach("step(0, 0, #, 1)", 7, 0, 1, 2, 3, 4);
        house.refusesEach("step(#, 0, 0, 1)", 1, 0, -1, 4, MIN, MAX);
        house.refusesEach("step(0, 0, #, 1)", 1, 0, -1, 5, MIN, MAX);
        TestSentence.sentence(3, "A step is on a floor, and lasts for 1 to 4 beats");
        house.answers("step(0, 0, 0, 1)", 7).answers("step(0, 0, 0, 2)", 6).answers("step(0, 0, 0, 3)", 5)
                .answers("step(0, 0, 0, 4)", 4).refusesEach("step(0, 0, 0, #)", 1, 0, 0, 5, -1, MIN, MAX);
        TestSentence.sentence(3, "it sounds on that floor in all of them");
        TestRun sounding = house.and("step(1, 2, 0, 1)", "step(1, 2, 4, 4)");
        int[] floors = {0, 4, 4, 4, 4, -1, -1, -1};
        sounding.answersRow("floorAt(1, 2, #)", floors);
        TestSentence.sentence(3, "At most 8 bars are there, numbered from 0 as they come");
        house.answersEach("step(3, #, 4, 4)", 4, 0, 1, 2).refusesEach("step(3, #, 4, 4)", 3, 3, -1, 3, 8, MIN, MAX);
        eight().answersEach("step(3, #, 4, 4)", 4, 0, 7).refusesEach("step(3, #, 4, 4)", 3, 8, -1, 8, MAX);
        TestSentence.sentence(3, "which last for 8 beats together at most");
        TestRun small = house;
        for (int beat = 0; beat < 8; beat++) {
            small.answers("step(2, 1, 3, 1)", 7 - beat);
            small = small.and("step(2, 1, 3, 1)");
        }
        small.refuses("step(2, 1, 3, 1)", 4, 0).answers("lacking(2, 1)", 0).answers("account(1)", 8);
        house.and("s00@1*4").answers("step(0, 0, 2, 4)", 0).answers("step(0, 1, 2, 4)", 4)
                .answers("step(1, 0, 2, 4)", 4);
    }

    private static void stepReasons() {
        TestSentence.sentence(3, "4, there are too few beats left: how many");
        TestRun five = three().and("s00@1*4;r00*1");
        five.answers("step(0, 0, 4, 3)", 0).refuses("step(0, 0, 4, 4)", 4, 3);
        TestRun full = five.and("s00@1*3");
        full.refusesEach("step(0, 0, 4, #)", 4, 0, 1, 2, 3, 4);
        three().and("s00@1*4;r00*3").refuses("step(0, 0, 4, 2)", 4, 1).answers("step(0, 0, 4, 1)", 0);
        TestSentence.sentence(3,
                "if it is refused for the reason 1, for the sister, the floor or the length, 3 or 4");
        full.refuses("step(4, 1, 0, 1)", 1, 0).refuses("step(0, 1, 5, 1)", 1, 0).refuses("step(0, 1, 0, 0)", 1, 0);
        full.refuses("step(0, 3, 0, 1)", 3, 3).refuses("step(0, 0, 0, 1)", 4, 0).answers("step(0, 1, 0, 1)", 7);
        TestSentence.sentence(3, "in the order in which it names them: 1, a number is out of range");
        full.refuses("step(4, 3, 0, 1)", 1, 0).refuses("step(0, 3, 5, 1)", 1, 0).refuses("step(0, 3, 0, 0)", 1, 0);
        full.refuses("step(0, 0, 5, 1)", 1, 0).refuses("step(0, 0, 0, 5)", 1, 0).refuses("step(0, 0, -1, 4)", 1, 0);
        full.refuses("step(-1, -1, -1, -1)", 1, 0);
        TestSentence.sentence(3,
                "A call that throws an exception leaves the state unchanged, unless stated otherwise.");
        TestRun changed = TestRun.after("bar()", "bar()", "step(0, 0, 1, 4)", "save()", "rest(0, 0, 2)", "undo()",
                "step(0, 0, 3, 2)", "bar()", "!b;", "line(0, 0)", "append(98)");
        changed.refuses("step(0, 0, 4, 3)", 4, 2).refuses("step(0, 3, 4, 3)", 3, 3).refuses("step(0, 0, 4, 0)", 1, 0);
    }

    // ---- promise 4 ----

    private static void rest() {
        TestRun house = three();
        TestSentence.sentence(4, "A rest on tiptoe lasts for 1 to 4 beats, and does not sound.");
        house.answers("rest(0, 0, 1)", 7).answers("rest(0, 0, 2)", 6).answers("rest(0, 0, 3)", 5)
                .answers("rest(0, 0, 4)", 4).refusesEach("rest(0, 0, #)", 1, 0, 0, 5, -1, MIN, MAX);
        TestRun quiet = house.and("rest(0, 0, 4)", "rest(0, 0, 4)");
        quiet.answersEach("floorAt(0, 0, #)", -1, 0, 3, 4, 7).answers("steps(0)", 0).answers("account(1)", 2);
        TestSentence.sentence(4, "There are the sisters 0 to 3");
        house.answersEach("rest(#, 2, 2)", 6, 0, 1, 2, 3).refusesEach("rest(#, 2, 2)", 1, 0, -1, 4, MIN, MAX);
        TestSentence.sentence(4, "3, there is no such bar: how many there are");
        house.answersEach("rest(3, #, 1)", 7, 0, 2).refusesEach("rest(3, #, 1)", 3, 3, -1, 3, 8, MIN, MAX);
        eight().answersEach("rest(3, #, 1)", 7, 0, 7).refusesEach("rest(3, #, 1)", 3, 8, -1, 8);
        TestSentence.sentence(4, "4, there are too few beats left: how many");
        TestRun five = house.and("s20@1*4;r20*1");
        five.answers("rest(2, 0, 3)", 0).refuses("rest(2, 0, 4)", 4, 3);
        five.and("rest(2, 0, 3)").refusesEach("rest(2, 0, #)", 4, 0, 1, 4).answers("rest(2, 1, 4)", 4);
        TestSentence.sentence(4, "if it is refused for the reason 1, for the sister or the length, 3 or 4");
        TestRun full = five.and("rest(2, 0, 3)");
        full.refuses("rest(4, 3, 1)", 1, 0).refuses("rest(0, 3, 0)", 1, 0).refuses("rest(2, 0, 5)", 1, 0);
        full.refuses("rest(2, 0, 0)", 1, 0);
    }

    // ---- promise 5 ----

    private static void stair() {
        TestRun house = three();
        TestSentence.sentence(5, "it lasts for 2 or 4 beats");
        house.answers("stair(0, 0, 1, 2, true)", 6).answers("stair(0, 0, 1, 4, true)", 4);
        house.answers("stair(0, 0, 1, 2, false)", 6).answers("stair(0, 0, 1, 4, false)", 4);
        house.refusesEach("stair(0, 0, 1, #, true)", 1, 0, 1, 3, 5, 0, 6, -2, MIN, MAX);
        house.refusesEach("stair(0, 0, 1, #, false)", 1, 0, 1, 3, 5, 0, 8, -4, MIN, MAX);
        TestSentence.sentence(5, "A stair begins on a floor and goes up or down by one");
        house.answersEach("stair(0, 0, #, 2, true)", 6, 0, 1, 2, 3);
        house.answersEach("stair(0, 0, #, 2, false)", 6, 1, 2, 3, 4);
        house.and("u00@3*2;d00@1*2").answersRow("floorAt(0, 0, #)", 3, 4, 1, 0, -1, -1, -1, -1);
        TestSentence.sentence(5,
                "sounds on the one floor in the first half of them, and on the other floor in the second half");
        house.and("u00@0*4;d00@4*4").answersRow("floorAt(0, 0, #)", 0, 0, 1, 1, 4, 4, 3, 3);
        house.and("u00@0*2;d00@4*2;u00@3*2;d00@1*2").answersRow("floorAt(0, 0, #)", 0, 1, 4, 3, 3, 4, 1, 0);
        TestSentence.sentence(5, "5, the stair would leave the house: its floor");
        house.refuses("stair(0, 0, 4, 2, true)", 5, 4).refuses("stair(3, 2, 4, 4, true)", 5, 4);
        house.refuses("stair(0, 0, 0, 2, false)", 5, 0).refuses("stair(3, 2, 0, 4, false)", 5, 0);
        house.answers("stair(0, 0, 4, 2, false)", 6).answers("stair(0, 0, 0, 2, true)", 6);
    }

    private static void stairReasons() {
        TestRun house = three();
        TestSentence.sentence(5, "There are the sisters 0 to 3 and the floors 0 to 4");
        house.answersEach("stair(#, 0, 1, 2, true)", 6, 0, 1, 2, 3);
        house.refusesEach("stair(#, 0, 1, 2, true)", 1, 0, -1, 4, MIN, MAX);
        house.refusesEach("stair(0, 0, #, 2, true)", 1, 0, -1, 5, MIN, MAX);
        house.refusesEach("stair(0, 0, #, 2, false)", 1, 0, -1, 5, MIN, MAX);
        TestSentence.sentence(5, "3, there is no such bar: how many there are");
        house.answersEach("stair(3, #, 1, 4, false)", 4, 0, 2);
        house.refusesEach("stair(3, #, 1, 4, false)", 3, 3, -1, 3, 8, MIN, MAX);
        TestSentence.sentence(5, "4, there are too few beats left: how many");
        TestRun five = house.and("s00@1*4;r00*1");
        five.answers("stair(0, 0, 3, 2, true)", 1).refuses("stair(0, 0, 3, 4, true)", 4, 3);
        five.and("r00*1").answers("stair(0, 0, 1, 2, false)", 0).refuses("stair(0, 0, 1, 4, false)", 4, 2);
        five.and("r00*2").refuses("stair(0, 0, 1, 2, false)", 4, 1);
        TestRun full = five.and("r00*3");
        full.refuses("stair(0, 0, 1, 2, false)", 4, 0).answers("stair(0, 1, 1, 2, false)", 6);
        TestSentence.sentence(5,
                "if it is refused for the reason 1, for the sister, the floor or the length, 5, 3 or 4");
        full.refuses("stair(4, 0, 4, 2, true)", 1, 0).refuses("stair(0, 0, 4, 3, true)", 1, 0);
        full.refuses("stair(0, 0, 0, 1, false)", 1, 0).refuses("stair(0, 3, 1, 3, true)", 1, 0);
        full.refuses("stair(4, 3, 1, 2, true)", 1, 0).refuses("stair(0, 3, 5, 2, true)", 1, 0);
        full.refuses("stair(0, 0, 1, 3, true)", 1, 0).refuses("stair(0, 3, 4, 2, true)", 5, 4);
        full.refuses("stair(0, -1, 0, 2, false)", 5, 0).refuses("stair(0, 0, 4, 4, true)", 5, 4);
        full.refuses("stair(0, 0, 0, 2, false)", 5, 0).refuses("stair(0, 3, 3, 2, true)", 3, 3);
    }

    // ---- promise 6 ----

    private static void takeBack() {
        TestRun house = eight();
        TestSentence.sentence(6, "Returns for how many beats it lasted.");
        TestRun row = house.and("s07@1*1;r07*4", "u07@3*2");
        row.answers("takeBack(0, 7)", 2).and("undo()").answers("takeBack(0, 7)", 4);
        row.and("undo()", "undo()", "s07@1*1").answers("takeBack(0, 7)", 1);
        house.and("s30@1*4").answers("takeBack(3, 0)", 4);
        TestSentence.sentence(6, "Takes the last sign of a sister in a bar away.");
        row.and("takeBack(0, 7)").holdsAs(house.and("s07@1*1;r07*4", "s17@0*1", "x17"));
        row.and("takeBack(0, 7)", "takeBack(0, 7)").answers("signOf(0, 7, 0, 1)", 1)
                .throwing("signOf(0, 7, 1, 1)", TestRun.ELEMENT).answers("lacking(0, 7)", 7);
        row.and("takeBack(0, 7)", "takeBack(0, 7)", "takeBack(0, 7)").answers("lacking(0, 7)", 8)
                .answers("account(1)", 0).answers("account(8)", 3).answers("floorAt(0, 7, 0)", -1);
        TestRun full = house.and("s20@4*1;s20@3*1;s20@2*1;s20@1*1", "s20@0*1;s20@1*1;s20@2*1;s20@3*1");
        full.answers("takeBack(2, 0)", 1).and("takeBack(2, 0)").answers("lacking(2, 0)", 1)
                .answersRow("floorAt(2, 0, #)", 4, 3, 2, 1, 0, 1, 2, -1).answers("rest(2, 0, 1)", 0);
        full.and("takeBack(2, 0)", "rest(2, 0, 1)").answersRow("floorAt(2, 0, #)", 4, 3, 2, 1, 0, 1, 2, -1);
        TestSentence.sentence(6, "6, the sister has no sign in the bar: the bar");
        full.refuses("takeBack(3, 0)", 6, 0).refuses("takeBack(2, 1)", 6, 1).refuses("takeBack(0, 7)", 6, 7);
        row.and("takeBack(0, 7)", "takeBack(0, 7)", "takeBack(0, 7)").refuses("takeBack(0, 7)", 6, 7);
    }

    private static void takeBackReasons() {
        TestRun house = three().and("s00@1*4;s10@1*4;s20@1*4;s30@1*4;s02@1*1");
        TestSentence.sentence(6, "There are the sisters 0 to 3");
        house.answersEach("takeBack(#, 0)", 4, 0, 1, 2, 3).refusesEach("takeBack(#, 0)", 1, 0, -1, 4, MIN, MAX);
        TestSentence.sentence(6, "3, there is no such bar: how many there are");
        house.answers("takeBack(0, 2)", 1).refusesEach("takeBack(0, #)", 3, 3, -1, 3, 8, MIN, MAX);
        eight().refusesEach("takeBack(0, #)", 3, 8, -1, 8);
        TestSentence.sentence(6, "if it is refused for the reason 1, for the sister, 3 or 6");
        house.refuses("takeBack(4, 3)", 1, 0).refuses("takeBack(-1, -1)", 1, 0).refuses("takeBack(4, 1)", 1, 0);
    }

    // ---- promise 7 ----

    private static void quarrel() {
        TestRun house = eight();
        TestSentence.sentence(7, "0 for the sisters 0 and 1, 1 for 0 and 2, 2 for 0 and 3, 3 for 1 and 2, "
                + "4 for 1 and 3, and 5 for 2 and 3");
        house.answers("quarrel(0, 1, 7)", 1).answers("quarrel(0, 2, 7)", 2).answers("quarrel(0, 3, 7)", 4)
                .answers("quarrel(1, 2, 7)", 8).answers("quarrel(1, 3, 7)", 16).answers("quarrel(2, 3, 7)", 32);
        house.answers("quarrel(1, 0, 0)", 1).answers("quarrel(2, 0, 0)", 2).answers("quarrel(3, 0, 0)", 4)
                .answers("quarrel(2, 1, 0)", 8).answers("quarrel(3, 1, 0)", 16).answers("quarrel(3, 2, 0)", 32);
        TestSentence.sentence(7,
                "the quarrel lasts in this bar and in all later ones ahead of the bar in which it ends, "
                + "or in all later ones if it does not end");
        house.and("quarrel(2, 3, 0)").answersEach("key(#)", 32, 0, 1, 7);
        house.and("quarrel(2, 3, 1)").answers("key(0)", 0).answersEach("key(#)", 32, 1, 2, 7);
        house.and("quarrel(2, 3, 7)").answersEach("key(#)", 0, 0, 6).answers("key(7)", 32);
        TestRun.after("b", "quarrel(0, 1, 0)", TestRun.bars(7)).answersEach("key(#)", 1, 0, 1, 7);
        TestSentence.sentence(7, "Returns the key of the bar then.");
        TestRun five = house.and("q011;q021;q031;q122;q133", "e012");
        five.answers("quarrel(3, 2, 0)", 32).answers("quarrel(3, 2, 1)", 1 + 2 + 4 + 32)
                .answers("quarrel(3, 2, 2)", 2 + 4 + 8 + 32).answers("quarrel(3, 2, 7)", 2 + 4 + 8 + 16 + 32);
        house.and("q010;q020;q030;q120;q130").answers("quarrel(2, 3, 7)", 63);
    }

    private static void quarrelReasons() {
        TestRun house = three();
        TestSentence.sentence(7, "There are the sisters 0 to 3");
        house.refusesEach("quarrel(#, 1, 0)", 1, 0, -1, 4, MIN, MAX);
        house.refusesEach("quarrel(1, #, 0)", 1, 0, -1, 4, MIN, MAX);
        house.answers("quarrel(0, 3, 0)", 4).answers("quarrel(3, 0, 0)", 4);
        TestSentence.sentence(7, "7, both sisters are one: the sister");
        for (int sister = 0; sister < 4; sister++) {
            house.refuses("quarrel(" + sister + ", " + sister + ", 2)", 7, sister);
        }
        TestSentence.sentence(7, "3, there is no such bar: how many there are");
        house.answers("quarrel(0, 1, 0)", 1).answers("quarrel(0, 1, 2)", 1);
        house.refusesEach("quarrel(0, 1, #)", 3, 3, -1, 3, 8, MIN, MAX);
        eight().answers("quarrel(0, 1, 7)", 1).refusesEach("quarrel(0, 1, #)", 3, 8, -1, 8);
        TestSentence.sentence(7, "8, they quarrel already: from which bar on");
        house.and("quarrel(0, 1, 0)").refusesEach("quarrel(0, 1, #)", 8, 0, 0, 1, 2).refuses("quarrel(1, 0, 2)", 8, 0);
        house.and("quarrel(3, 2, 2)").refusesEach("quarrel(2, 3, #)", 8, 2, 0, 1, 2).answers("quarrel(1, 3, 2)", 48);
        eight().and("quarrel(3, 0, 7)").refuses("quarrel(0, 3, 0)", 8, 7);
        TestSentence.sentence(7, "A quarrel that has an end is a quarrel still");
        TestRun ended = house.and("quarrel(0, 1, 0)", "end(0, 1, 1)");
        ended.refusesEach("quarrel(0, 1, #)", 8, 0, 0, 1, 2).refuses("quarrel(1, 0, 2)", 8, 0);
        TestSentence.sentence(7, "Two sisters have one quarrel at most.");
        ended.and("undo()", "undo()").answers("quarrel(0, 1, 2)", 1);
        ended.and("!quarrel(0, 1, 2)").answers("account(4)", 1).answers("key(2)", 0);
        TestSentence.sentence(7, "if it is refused for the reason 1, for the sisters, 7, 3 or 8");
        ended.refuses("quarrel(4, 4, 0)", 1, 0).refuses("quarrel(-1, -1, 3)", 1, 0).refuses("quarrel(4, 0, 3)", 1, 0);
        ended.refuses("quarrel(2, 2, 3)", 7, 2).refuses("quarrel(0, 1, 3)", 3, 3).refuses("quarrel(1, 0, -1)", 3, 3);
    }

    // ---- promise 8 ----

    private static void end() {
        TestRun house = TestRun.after(TestRun.bars(4), "quarrel(1, 0, 1)");
        TestSentence.sentence(8, "Returns in how many bars that are there they quarrel then.");
        house.answers("end(0, 1, 2)", 1).answers("end(0, 1, 3)", 2).answers("end(0, 1, 4)", 3)
                .answersEach("end(0, 1, #)", 3, 5, 6, 7, 8).answers("end(1, 0, 3)", 2);
        TestRun.after("b", "quarrel(0, 1, 0)").answersEach("end(0, 1, #)", 1, 1, 2, 8);
        eight().and("quarrel(0, 1, 0)").answers("end(0, 1, 7)", 7).answers("end(0, 1, 8)", 8)
                .answers("end(0, 1, 1)", 1);
        eight().and("quarrel(0, 1, 7)").answers("end(0, 1, 8)", 1);
        eight().and("quarrel(0, 1, 0)", "coda(0, 7)").answers("end(0, 1, 8)", 8);
        TestSentence.sentence(8,
                "A quarrel ends in a bar behind the one in which it begins, which need not be there yet.");
        TestRun later = house.and("end(0, 1, 6)").answersEach("key(#)", 1, 1, 3).answers("key(0)", 0);
        later.and(TestRun.bars(4)).answersEach("key(#)", 1, 1, 4, 5).answersEach("key(#)", 0, 0, 6, 7);
        house.and("end(0, 1, 8)", TestRun.bars(4)).answersEach("key(#)", 1, 1, 7).answers("end(0, 1, 8)", 7);
        house.and("end(0, 1, 4)", "bar()").answers("key(3)", 1).answers("key(4)", 0);
        TestSentence.sentence(8, "all later ones ahead of the bar in which it ends");
        house.and("end(0, 1, 2)").answers("key(1)", 1).answersEach("key(#)", 0, 0, 2, 3);
        house.and("end(0, 1, 3)").answersEach("key(#)", 1, 1, 2).answersEach("key(#)", 0, 0, 3);
    }

    private static void endTold() {
        TestRun house = TestRun.after(TestRun.bars(4), "quarrel(1, 0, 1)");
        TestSentence.sentence(8, "its end can be told anew, but no other quarrel of both can be told");
        house.and("end(0, 1, 2)").answers("end(1, 0, 4)", 3).and("end(1, 0, 4)").answersEach("key(#)", 1, 1, 2, 3);
        house.and("end(0, 1, 4)").answers("end(0, 1, 2)", 1).and("end(0, 1, 2)").answersEach("key(#)", 0, 0, 2, 3);
        house.and("end(0, 1, 2)").answers("end(0, 1, 2)", 1).answers("end(0, 1, 8)", 3);
        house.and("end(0, 1, 2)", "!end(0, 1, 1)").answers("key(1)", 1).answers("key(2)", 0);
        house.and("end(0, 1, 2)").refuses("quarrel(0, 1, 3)", 8, 1);
        TestSentence.sentence(8, "Quarrels that have ended count among the quarrels.");
        house.and("end(0, 1, 2)").answers("account(4)", 1);
    }

    private static void endReasons() {
        TestRun house = TestRun.after(TestRun.bars(4), "quarrel(1, 0, 1)", "quarrel(2, 3, 0)");
        TestSentence.sentence(8, "`bar`: the bar, 0 to 8");
        house.refusesEach("end(0, 1, #)", 1, 0, -1, 9, 10, MIN, MAX).answers("end(0, 1, 8)", 3)
                .refuses("end(0, 1, 0)", 10, 1);
        TestSentence.sentence(8, "There are the sisters 0 to 3");
        house.refusesEach("end(#, 1, 3)", 1, 0, -1, 4, MIN, MAX).refusesEach("end(1, #, 3)", 1, 0, -1, 4, MIN, MAX);
        house.answers("end(3, 2, 1)", 1).answers("end(0, 1, 2)", 1);
        TestSentence.sentence(8, "7, both sisters are one: the sister");
        for (int sister = 0; sister < 4; sister++) {
            house.refuses("end(" + sister + ", " + sister + ", 3)", 7, sister);
        }
        TestSentence.sentence(8, "9, they have no quarrel");
        house.refusesEach("end(0, 2, #)", 9, 0, 0, 1, 8).refuses("end(3, 0, 3)", 9, 0).refuses("end(1, 3, 3)", 9, 0);
        house.and("undo()").refuses("end(2, 3, 3)", 9, 0);
        TestSentence.sentence(8, "10, the quarrel cannot end there: the bar in which it begins");
        house.refusesEach("end(0, 1, #)", 10, 1, 0, 1).answers("end(0, 1, 2)", 1);
        house.refuses("end(3, 2, 0)", 10, 0).answers("end(3, 2, 1)", 1);
        eight().and("quarrel(0, 1, 7)").refusesEach("end(0, 1, #)", 10, 7, 0, 6, 7).answers("end(0, 1, 8)", 1);
        house.and("end(0, 1, 3)").refusesEach("end(0, 1, #)", 10, 1, 0, 1);
        TestSentence.sentence(8, "if it is refused for the reason 1, for the sisters or the bar, 7, 9 or 10");
        house.refuses("end(4, 4, 3)", 1, 0).refuses("end(2, 2, 9)", 1, 0).refuses("end(2, 2, -1)", 1, 0);
        house.refuses("end(0, 2, 9)", 1, 0).refuses("end(0, 1, -1)", 1, 0).refuses("end(4, 0, 0)", 1, 0);
        house.refuses("end(2, 2, 0)", 7, 2).refuses("end(0, 2, 0)", 9, 0).refuses("end(1, 1, 8)", 7, 1);
    }

    // ---- promise 9 ----

    private static void coda() {
        TestRun house = eight();
        TestSentence.sentence(9, "Returns how many bars are played then.");
        house.answers("coda(0, 7)", 2).answers("coda(0, 2)", 7).answers("coda(5, 7)", 7).answers("coda(2, 5)", 6);
        three().answers("coda(0, 2)", 2);
        TestSentence.sentence(9, "At midnight, behind a bar, is jumped to the coda, a later bar than the next one");
        house.answers("coda(3, 5)", 7).refuses("coda(3, 4)", 11, 4).refuses("coda(3, 3)", 11, 4)
                .refuses("coda(3, 2)", 11, 4).refuses("coda(3, 0)", 11, 4);
        TestSentence.sentence(9, "A coda can be told anew.");
        TestRun told = house.and("coda(1, 4)");
        told.answers("coda(1, 4)", 6).answers("coda(0, 7)", 2).answers("coda(5, 7)", 7);
        told.and("coda(5, 7)").answersRow("played(#)", 0, 1, 2, 3, 4, 5, 7).answers("account(6)", 5)
                .answers("account(7)", 7).throwing("played(7)", TestRun.ELEMENT);
        TestSentence.sentence(9, "then the bars between are not played");
        told.answersRow("played(#)", 0, 1, 4, 5, 6, 7).throwing("played(6)", TestRun.ELEMENT);
        TestSentence.sentence(9, "A bar that is added behind all others is played even if a coda is told.");
        TestRun added = three().and("coda(0, 2)");
        added.answersRow("played(#)", 0, 2).and("bar()").answersRow("played(#)", 0, 2, 3).answers("account(5)", 3);
        added.and(TestRun.bars(5)).answers("played(6)", 7).answers("account(5)", 7);
        added.and("bar()").answers("coda(0, 3)", 2).answers("coda(1, 3)", 3);
        TestSentence.sentence(9, "Without a coda all bars are played in their order.");
        added.and("noCoda()").answersRow("played(#)", 0, 1, 2).answers("coda(0, 2)", 2);
        added.and("noCoda()", "coda(0, 2)").answersRow("played(#)", 0, 2);
    }

    private static void codaReasons() {
        TestRun house = three().and("coda(0, 2)");
        TestSentence.sentence(9, "3, there is no such bar: how many there are");
        house.refusesEach("coda(#, 2)", 3, 3, -1, 3, 8, MIN, MAX).refusesEach("coda(0, #)", 3, 3, -1, 3, 8, MIN, MAX);
        eight().refusesEach("coda(#, 7)", 3, 8, -1, 8).refusesEach("coda(0, #)", 3, 8, -1, 8);
        TestSentence.sentence(9, "11, the coda would not be later than the next bar: the next bar");
        house.refuses("coda(0, 0)", 11, 1).refuses("coda(0, 1)", 11, 1).refuses("coda(1, 2)", 11, 2)
                .refuses("coda(2, 2)", 11, 3).refuses("coda(2, 0)", 11, 3);
        eight().refuses("coda(7, 7)", 11, 8).refuses("coda(6, 7)", 11, 7).answers("coda(5, 7)", 7);
        TestRun.after("b").refuses("coda(0, 0)", 11, 1).refuses("coda(0, 1)", 3, 1);
        TestRun.after("b;b").refuses("coda(0, 1)", 11, 1).refuses("coda(0, 2)", 3, 2);
        TestSentence.sentence(9, "if it is refused for the reason 3, for either, or 11");
        house.refuses("coda(3, 3)", 3, 3).refuses("coda(2, 3)", 3, 3).refuses("coda(3, 0)", 3, 3);
        house.refuses("coda(0, -1)", 3, 3).refuses("coda(-1, 0)", 3, 3).refuses("coda(-1, -1)", 3, 3);
        house.refuses("coda(" + MAX + ", " + MIN + ")", 3, 3);
    }

    // ---- promise 10 ----

    private static void noCoda() {
        TestRun house = eight();
        TestSentence.sentence(10, "12, there is no coda");
        house.refuses("noCoda()", 12, 0);
        house.and("coda(0, 2)", "noCoda()").refuses("noCoda()", 12, 0);
        house.and("coda(0, 2)", "undo()").refuses("noCoda()", 12, 0);
        house.and("!coda(0, 1)").refuses("noCoda()", 12, 0);
        TestSentence.sentence(10, "As a coda is taken away, the later bar of both is told.");
        house.and("coda(0, 2)").answers("noCoda()", 2);
        house.and("coda(0, 7)").answers("noCoda()", 7);
        house.and("coda(5, 7)").answers("noCoda()", 7);
        house.and("coda(5, 7)", "coda(1, 3)").answers("noCoda()", 3);
        house.and("coda(5, 7)", "!coda(1, 2)").answers("noCoda()", 7);
        house.and("coda(5, 7)", "noCoda()", "undo()").answers("noCoda()", 7);
        TestSentence.sentence(10, "Takes the coda away.");
        house.and("coda(0, 7)", "noCoda()").answers("account(5)", 8).answers("account(6)", -1).answers("account(7)", -1)
                .answersRow("played(#)", 0, 1, 2, 3, 4, 5, 6, 7).answers("coda(0, 7)", 2);
    }
}
