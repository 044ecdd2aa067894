import java.util.Arrays;

/**
 * Calls on a new house, which are made again for each check that follows. A call is written as in the document;
 * what holds no bracket is a text of commands. One that has to throw has "!" ahead of it.
 */
final class TestRun {
    static final String INDEX = "IndexOutOfBoundsException";
    static final String ARGUMENT = "IllegalArgumentException";
    static final String ELEMENT = "NoSuchElementException";
    static final String STATE = "IllegalStateException";
    static final String QUOTIENT = "ArithmeticException";
    static final int MIN = Integer.MIN_VALUE;
    static final int MAX = Integer.MAX_VALUE;

    private static final String THROWS = "throws.";
    private static final String REFUSED = THROWS + "UnsupportedOperationException";
    private static final int MOST_UNDONE = 8;

    private final String[] calls;

    private TestRun(String[] calls) {
        this.calls = calls;
    }

    static TestRun after(String... calls) {
        return new TestRun(calls);
    }

    /** The calls that append the characters of a text. */
    static String[] typed(String text) {
        String[] appended = new String[text.length()];
        for (int index = 0; index < appended.length; index++) {
            appended[index] = "append(" + (int) text.charAt(index) + ")";
        }
        return appended;
    }

    /** The text that adds so many bars. */
    static String bars(int count) {
        return "b;".repeat(count).substring(0, 2 * count - 1);
    }

    TestRun and(String... more) {
        String[] all = Arrays.copyOf(calls, calls.length + more.length);
        System.arraycopy(more, 0, all, calls.length, more.length);
        return new TestRun(all);
    }

    private TestHouse house() {
        TestHouse house = new TestHouse();
        for (String call : calls) {
            boolean isThrowing = call.startsWith("!");
            String plain = isThrowing ? call.substring(1) : call;
            String answer = plain.indexOf('(') < 0 ? house.tell(plain) : house.call(plain);
            if (answer.startsWith(THROWS) != isThrowing) {
                due(call, answer, isThrowing ? "throws" : "a number");
            }
        }
        return house;
    }

    private void due(String call, Object got, Object want) {
        String told = TestSentence.title() + ": after " + String.join(", ", calls) + ": " + call;
        TestKit.due(told, String.valueOf(got), String.valueOf(want));
    }

    TestRun answers(String call, Object want) {
        due(call, house().call(call), want);
        return this;
    }

    /** The same answer for each of the numbers in place of "#". */
    TestRun answersEach(String call, Object want, int... numbers) {
        for (int number : numbers) {
            answers(with(call, number), want);
        }
        return this;
    }

    /** The answers in the row, for the numbers from 0 on in place of "#". */
    TestRun answersRow(String call, int... wants) {
        for (int number = 0; number < wants.length; number++) {
            answers(with(call, number), wants[number]);
        }
        return this;
    }

    private static String with(String call, int number) {
        return call.replace("#", "" + number);
    }

    /** The call throws and leaves all as it was. */
    TestRun throwing(String call, String exception) {
        TestHouse house = house();
        due(call, house.call(call), THROWS + exception);
        TestHouse before = house();
        due(call + " and the reason", house.reason(), before.reason());
        staysAfter(call, true);
        return this;
    }

    TestRun throwingEach(String call, String exception, int... numbers) {
        for (int number : numbers) {
            throwing(with(call, number), exception);
        }
        return this;
    }

    /** The call answers something and leaves all as it was. */
    TestRun leavesAll(String call) {
        TestHouse house = house();
        due(call + " throws", house.call(call).startsWith(THROWS), false);
        due(call + " and the reason", house.reason(), house().reason());
        staysAfter(call, true);
        return this;
    }

    /** The call is refused and leaves all but the reason as it was. */
    TestRun refuses(String call, int reason, int detail) {
        TestHouse house = house();
        due(call, house.call(call), REFUSED);
        due(call + " and the reason", house.reason(), reason + " " + detail + " 0");
        staysAfter(call, true);
        return this;
    }

    TestRun refusesEach(String call, int reason, int detail, int... numbers) {
        for (int number : numbers) {
            refuses(with(call, number), reason, detail);
        }
        return this;
    }

    /** The text is carried out. */
    TestRun tells(String text, int commands) {
        TestHouse house = house();
        due(text, house.tell(text), commands);
        due(text + " and the texts", house.texts(), "0 -1");
        return this;
    }

    /** The text of one command does what the call does, or is refused as it is. */
    TestRun doesAs(String text, String call) {
        TestHouse told = house();
        TestHouse called = house();
        String answer = told.tell(text);
        String wanted = called.call(call);
        due(text, answer, wanted.startsWith(THROWS) ? wanted : "1");
        due(text + " and the reason", told.reason(), called.reason());
        due(text + " and the state", told.state(), called.state());
        return this;
    }

    /** The fault position of the text, or -1 if it has no fault. */
    TestRun faultOf(String text, int position) {
        TestHouse house = house();
        boolean isFaulty = house.tell(text).equals(THROWS + ARGUMENT);
        due(text + " has a fault", isFaulty, position >= 0);
        due(text + " and the texts", house.texts(), "0 " + position);
        return this;
    }

    /** A command of the text is refused; none is carried out. */
    TestRun refusesText(String text, int reason, int detail, int index) {
        TestHouse house = house();
        due(text, house.tell(text), REFUSED);
        due(text + " and the reason", house.reason(), reason + " " + detail + " " + index);
        due(text + " and the texts", house.texts(), "0 -1");
        staysAfter(text, false);
        return this;
    }

    /** The text has a fault; none of it is carried out. */
    TestRun faulty(String text, int position) {
        TestHouse house = house();
        due(text, house.tell(text), THROWS + ARGUMENT);
        due(text + " and the texts", house.texts(), "0 " + position);
        due(text + " and the reason", house.reason(), house().reason());
        staysAfter(text, false);
        return this;
    }

    /** The call writes the line. */
    TestRun writes(String call, String line) {
        TestHouse house = house();
        due(call, house.call(call), line.length());
        due(call + " and the line", house.line(), line + " " + THROWS + INDEX);
        return this;
    }

    /** All that can be undone, and the line, are as after the calls of the other one. */
    TestRun isAs(TestRun other) {
        due("the state", house().state(), other.house().state());
        due("the line", house().line(), other.house().line());
        return this;
    }

    /** What can be undone is as after the calls of the other one, but for how many can be. */
    TestRun holdsAs(TestRun other) {
        due("the state", withoutUndoable(house().state()), withoutUndoable(other.house().state()));
        return this;
    }

    private static String withoutUndoable(String state) {
        String[] numbers = state.split(" ", 11);
        numbers[9] = "";
        return String.join(" ", numbers);
    }

    /** What the call leaves, what undo then finds, and what the snapshot holds, is as without it. */
    private void staysAfter(String call, boolean doTextsStay) {
        for (int undone = 0; undone <= MOST_UNDONE + 1; undone++) {
            TestHouse with = house();
            TestHouse without = house();
            make(with, call);
            for (int one = 0; one < undone; one++) {
                due(call + " and undo", with.call("undo()"), without.call("undo()"));
            }
            due(call + " and the state, " + undone + " undone", with.state(), without.state());
        }
        TestHouse with = house();
        TestHouse without = house();
        make(with, call);
        due(call + " and the line", with.line(), without.line());
        if (doTextsStay) {
            due(call + " and the texts", with.texts(), without.texts());
        }
        due(call + " and restore", with.call("restore()"), without.call("restore()"));
        due(call + " and the snapshot", with.state(), without.state());
    }

    private static void make(TestHouse house, String call) {
        if (call.indexOf('(') < 0) {
            house.tell(call);
        } else {
            house.call(call);
        }
    }
}
