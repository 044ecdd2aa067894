/** The boundary cases of promise 1: what every call answers or throws in a house without bars. */
public final class EmptyHouseTests {
    private static final int MIN = TestRun.MIN;
    private static final int MAX = TestRun.MAX;

    private EmptyHouseTests() {
    }

    public static void main(String[] args) {
        TestSentence.sentence(1, "Creates a house without bars.");
        TestRun.after().answers("account(0)", 0).isAs(TestRun.after("bar()", "undo()"));
        TestRun[] houses = {TestRun.after(), TestRun.after("bar()", "undo()"),
            TestRun.after("save()", "b", "s00@1*4;q010", "restore()")};
        for (TestRun house : houses) {
            changes(house);
            questionsOfBars(house);
            questionsWithoutBars(house);
            lines(house);
            accounts(house);
        }
        texts();
        backwards();
        TestSentence.finish(1, 1);
    }

    private static void changes(TestRun house) {
        TestSentence.sentence(1, 2, "numbered from 0 as they come");
        house.answers("bar()", 0);
        TestSentence.sentence(1, 3, "3, there is no such bar: how many there are");
        house.refusesEach("step(0, #, 0, 1)", 3, 0, 0, -1, 1, 7, 8, MIN, MAX);
        house.refusesEach("rest(3, #, 4)", 3, 0, 0, -1, 8, MIN, MAX);
        house.refusesEach("stair(0, #, 0, 2, true)", 3, 0, 0, -1, 8, MIN, MAX);
        house.refusesEach("takeBack(0, #)", 3, 0, 0, -1, 8, MIN, MAX);
        house.refusesEach("quarrel(0, 1, #)", 3, 0, 0, -1, 8, MIN, MAX);
        house.refusesEach("coda(#, 2)", 3, 0, 0, -1, 8, MIN, MAX);
        house.refusesEach("coda(0, #)", 3, 0, 0, -1, 2, 8, MIN, MAX);
        TestSentence.sentence(1, 3,
                "Something is refused for the first that applies of the reasons that its method names");
        house.refuses("step(4, 0, 0, 1)", 1, 0).refuses("step(0, 0, 5, 1)", 1, 0).refuses("step(0, 0, 0, 0)", 1, 0);
        house.refuses("rest(-1, 0, 1)", 1, 0).refuses("rest(0, 0, 5)", 1, 0);
        house.refuses("stair(0, 0, 4, 2, true)", 5, 4).refuses("stair(0, 0, 0, 2, false)", 5, 0);
        house.refuses("stair(0, 0, 0, 3, true)", 1, 0).refuses("takeBack(4, 0)", 1, 0);
        house.refuses("quarrel(4, 4, 0)", 1, 0).refuses("quarrel(3, 3, 0)", 7, 3);
        TestSentence.sentence(1, 8, "9, they have no quarrel");
        house.refusesEach("end(0, 1, #)", 9, 0, 0, 1, 8).refusesEach("end(0, 1, #)", 1, 0, -1, 9);
        house.refuses("end(1, 1, 0)", 7, 1);
        TestSentence.sentence(1, 10, "12, there is no coda");
        house.refuses("noCoda()", 12, 0);
    }

    private static void questionsOfBars(TestRun house) {
        String[] calls = {"floorAt(0, #, 0)", "floorAt(0, #, 8)", "sounding(#, 0)", "sounding(#, 8)",
            "signOf(0, #, 0, 0)", "signOf(0, #, -1, 4)", "lacking(0, #)", "steps(#)", "stepsAgain(#)", "key(#)",
            "clashes(#)", "clashesAgain(#)", "beatsOn(0, #, 0)", "beatsOn(0, #, 5)", "fullest(#, 0)", "fullest(#, 8)",
            "areAlike(0, #, #)", "wouldClash(0, #, 0)", "wouldClash(0, #, 5)", "bestShift(0, #)"};
        int[] under = {11, 11, 12, 12, 13, 13, 14, 15, 16, 18, 19, 20, 21, 21, 22, 22, 25, 26, 26, 27};
        for (int number = 0; number < calls.length; number++) {
            boolean ofSister = calls[number].contains("(0, #");
            TestSentence.sentence(1, under[number], "Throws `IndexOutOfBoundsException` if there is no such "
                    + (ofSister ? "sister or bar" : "bar"));
            house.throwingEach(calls[number], TestRun.INDEX, 0, -1, 1, 8, MIN, MAX);
        }
    }

    private static void questionsWithoutBars(TestRun house) {
        TestSentence.sentence(1, 17, "Returns the beats in which a sister sounds in all bars together");
        house.answersEach("stepsOf(#)", 0, 0, 1, 2, 3).throwingEach("stepsOf(#)", TestRun.INDEX, -1, 4, MIN, MAX);
        TestSentence.sentence(1, 23, "Throws `NoSuchElementException` if there is no such place");
        house.throwingEach("played(#)", TestRun.ELEMENT, -1, 0, 1, 8, MIN, MAX);
        TestSentence.sentence(1, 24, "Returns the steps of all bars that are played, together.");
        house.answers("playedSteps()", 0);
        TestSentence.sentence(1, 28, "Throws `NoSuchElementException` if there is no such place");
        for (int measure = 0; measure < 4; measure++) {
            house.throwingEach("ranked(" + measure + ", #)", TestRun.ELEMENT, -1, 0, 1, 8, MIN, MAX);
        }
        TestSentence.sentence(1, 28, "Throws `IllegalArgumentException` if there is no such measure");
        house.throwingEach("ranked(#, 0)", TestRun.ARGUMENT, -1, 4, MIN, MAX);
        TestSentence.sentence(1, 36, "Throws `ArithmeticException` if there are none");
        house.throwing("meanSteps()", TestRun.QUOTIENT);
        TestSentence.sentence(1, 37, "Throws `ArithmeticException` if there are no bars");
        house.throwing("fullShare()", TestRun.QUOTIENT);
    }

    private static void lines(TestRun house) {
        TestSentence.sentence(1, 33, "Throws `IndexOutOfBoundsException` if there is no such sister or bar");
        house.throwingEach("line(0, #)", TestRun.INDEX, 0, -1, 8, MIN, MAX);
        TestSentence.sentence(1, 34, "Throws `IndexOutOfBoundsException` if there is no such bar");
        house.throwingEach("staff(#, 0)", TestRun.INDEX, 0, -1, 8, MIN, MAX).throwing("staff(0, 5)", TestRun.INDEX);
        TestSentence.sentence(1, 35, "Returns a character of the line, which is empty at first.");
        house.throwingEach("character(#)", TestRun.INDEX, -1, 0, 1, MIN, MAX);
    }

    private static void accounts(TestRun house) {
        TestSentence.sentence(1, 38, "Returns an account.");
        house.answersRow("account(#)", 0, 0, 0, 0, 0, 0, -1, -1, 0, 0, 0);
        house.throwingEach("account(#)", TestRun.ARGUMENT, -1, 11, MIN, MAX);
    }

    private static void texts() {
        TestRun house = TestRun.after();
        TestSentence.sentence(1, 29, "Returns the new length of the buffer.");
        house.answers("append(98)", 1);
        TestSentence.sentence(1, 30, "Throws `IllegalArgumentException` if the text has a fault");
        house.faulty("", 0).faulty(";", 0).faulty("b;", 2);
        TestSentence.sentence(1, 30,
                "Throws `UnsupportedOperationException` if a command is refused; the reason is kept");
        house.refusesText("s00@0*1", 3, 0, 0).refusesText("n", 12, 0, 0).refusesText("e011", 9, 0, 0);
        TestSentence.sentence(1, 30, "Returns the number of commands.");
        house.tells("b", 1);
        TestSentence.sentence(1, 31,
                "Returns the fault position, or -1 if that text had no fault or there was no such call.");
        house.answers("faultPosition()", -1);
        TestSentence.sentence(1, 32, "Throws `NoSuchElementException` if nothing was refused");
        house.throwingEach("reason(#)", TestRun.ELEMENT, 0, 1, 2);
        TestSentence.sentence(1, 32, "Throws `IllegalArgumentException` if what is not from 0 to 2");
        house.throwingEach("reason(#)", TestRun.ARGUMENT, -1, 3, MIN, MAX);
    }

    private static void backwards() {
        TestSentence.sentence(1, 39, "Throws `IllegalStateException` if there is none");
        TestRun.after().throwing("undo()", TestRun.STATE);
        TestRun.after("bar()", "undo()").throwing("undo()", TestRun.STATE);
        TestSentence.sentence(1, 40, "Returns how many bars there are.");
        TestRun.after().answers("save()", 0);
        TestRun.after("b;b", "undo()").answers("save()", 0);
        TestSentence.sentence(1, 41, "Throws `IllegalStateException` if there is no snapshot");
        TestRun.after().throwing("restore()", TestRun.STATE);
        TestSentence.sentence(1, 41, "Returns how many bars there are.");
        TestRun.after("save()").answers("restore()", 0);
        TestRun.after("save()", "b;b").answers("restore()", 0);
    }
}
