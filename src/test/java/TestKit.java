import java.util.function.Supplier;

/** What the tests share: counting wrong answers, and looking at all that a house tells. */
final class TestKit {
    private static int checks = 0;
    private static int wrong = 0;

    private TestKit() {
    }

    static void due(String what, Object got, Object want) {
        checks++;
        if (!want.equals(got)) {
            wrong++;
            System.out.println(what + " answered " + got + ", due is " + want);
        }
    }

    static int checks() {
        return checks;
    }

    /** The call throws just this exception and changes nothing, not even the reason. */
    static void rejected(SisterSteps x, String what, Class<?> exception, Supplier<?> call) {
        String before = allOf(x);
        due(what, answerOf(call), "throws." + exception.getSimpleName());
        due(what + " leaves the state", allOf(x), before);
    }

    /** The call is refused for the reason with its detail and changes nothing else. */
    static void refused(SisterSteps x, String what, int reason, int detail, Supplier<?> call) {
        String before = houseOf(x);
        due(what, answerOf(call), "throws.UnsupportedOperationException");
        due(what + ": reason", x.reason(0), reason);
        due(what + ": detail", x.reason(1), detail);
        due(what + ": command", x.reason(2), 0);
        due(what + " leaves the state", houseOf(x), before);
    }

    static String answerOf(Supplier<?> call) {
        try {
            return String.valueOf(call.get());
        } catch (RuntimeException e) {
            return "throws." + e.getClass().getSimpleName();
        }
    }

    static SisterSteps newHouse(int bars) {
        SisterSteps x = new SisterSteps();
        for (int bar = 0; bar < bars; bar++) {
            x.bar();
        }
        return x;
    }

    static void type(SisterSteps x, String text) {
        for (char character : text.toCharArray()) {
            x.append(character);
        }
    }

    static int tell(SisterSteps x, String text) {
        type(x, text);
        return x.commands();
    }

    static String lineOf(SisterSteps x) {
        StringBuilder line = new StringBuilder();
        while (true) {
            try {
                line.append(x.character(line.length()));
            } catch (IndexOutOfBoundsException e) {
                return line.toString();
            }
        }
    }

    /** All that can be asked without changing anything, but for the reason. */
    static String houseOf(SisterSteps x) {
        return undoableOf(x) + " " + x.account(9) + " " + x.account(10) + " [" + lineOf(x) + "] " + x.faultPosition();
    }

    /** All that can be asked of what can be undone. */
    static String undoableOf(SisterSteps x) {
        StringBuilder all = new StringBuilder();
        for (int what = 0; what <= 8; what++) {
            all.append(x.account(what)).append(' ');
        }
        for (int bar = 0; bar < x.account(0); bar++) {
            all.append(" | ").append(x.key(bar)).append(' ').append(x.clashes(bar));
            for (int sister = 0; sister < 4; sister++) {
                all.append(" /").append(x.lacking(sister, bar));
                appendRow(all, x, sister, bar);
            }
        }
        return all.toString();
    }

    private static void appendRow(StringBuilder all, SisterSteps x, int sister, int bar) {
        for (int beat = 0; beat < 8; beat++) {
            all.append(' ').append(x.floorAt(sister, bar, beat));
        }
        int last = 8 - x.lacking(sister, bar);
        int place = 0;
        for (int beat = 0; beat < last; place++) {
            all.append(" <").append(x.signOf(sister, bar, place, 0)).append(x.signOf(sister, bar, place, 1));
            all.append(x.signOf(sister, bar, place, 2)).append(x.signOf(sister, bar, place, 3)).append('>');
            beat += x.signOf(sister, bar, place, 1);
        }
        int signs = place;
        due("place behind the last sign", answerOf(() -> x.signOf(sister, bar, signs, 0)),
                "throws.NoSuchElementException");
    }

    static String allOf(SisterSteps x) {
        StringBuilder all = new StringBuilder(houseOf(x));
        for (int what = 0; what <= 2; what++) {
            int number = what;
            all.append(' ').append(answerOf(() -> x.reason(number)));
        }
        return all.toString();
    }

    static void finish() {
        System.out.println(checks + " checks, " + wrong + " wrong");
        if (wrong != 0) {
            System.exit(1);
        }
    }
}
