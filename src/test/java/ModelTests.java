import java.util.function.Supplier;

/** Long runs of calls, the same ones at each start, on the program and on the model of it. */
public final class ModelTests {
    private static final int RUNS = 1500;
    private static final int CALLS = 512;
    private static final String LETTERS = "bsrudxqecn";

    private long seed;
    private SisterSteps x;
    private TestModel model;

    private ModelTests(int run) {
        seed = run;
        x = new SisterSteps();
        model = new TestModel();
    }

    public static void main(String[] args) {
        for (int run = 0; run < RUNS; run++) {
            new ModelTests(run).run();
        }
        TestKit.finish();
    }

    private void run() {
        int calls = 0;
        while (calls < CALLS) {
            int kind = below(20);
            if (kind == 0 && calls < CALLS - 61) {
                calls += text();
            } else if (kind < 9) {
                change();
                calls++;
            } else if (kind == 9) {
                backwards();
                calls++;
            } else {
                ask();
                calls++;
            }
        }
    }

    /** The next number of a fixed row, 0 to the bound less 1. */
    private int below(int bound) {
        seed = seed * 6364136223846793005L + 1442695040888963407L;
        return (int) ((seed >>> 33) % bound);
    }

    /** Mostly a number from 0 to the highest, at times one that is just outside or far outside. */
    private int near(int highest) {
        int odd = below(60);
        if (odd == 0) {
            return new int[] {Integer.MIN_VALUE, Integer.MAX_VALUE, -1, highest + 1}[below(4)];
        }
        return below(highest + 1);
    }

    private int bar() {
        return below(3) == 0 ? near(8) : near(3);
    }

    private void same(String call, Supplier<?> program, String want) {
        TestKit.due(call, TestKit.answerOf(program), want);
    }

    private void change() {
        char kind = LETTERS.charAt(below(3) == 0 ? below(10) : 1 + below(5));
        int a = kind == 'c' ? bar() : near(3);
        int b = kind == 'q' || kind == 'e' ? near(3) : bar();
        int c = kind == 'q' || kind == 'e' ? bar() : near(4);
        int d = 1 + near(3);
        String call = kind + "(" + a + ", " + b + ", " + c + ", " + d + ")";
        same(call, () -> changed(kind, a, b, c, d), model.changed(kind, a, b, c, d));
    }

    private Object changed(char kind, int a, int b, int c, int d) {
        return switch (kind) {
            case 'b' -> x.bar();
            case 's' -> x.step(a, b, c, d);
            case 'r' -> x.rest(a, b, d);
            case 'u' -> x.stair(a, b, c, d, true);
            case 'd' -> x.stair(a, b, c, d, false);
            case 'x' -> x.takeBack(a, b);
            case 'q' -> x.quarrel(a, b, c);
            case 'e' -> x.end(a, b, c);
            case 'c' -> x.coda(a, b);
            default -> x.noCoda();
        };
    }

    private void backwards() {
        int kind = below(8);
        if (kind < 5) {
            same("undo", () -> x.undo(), model.undo());
        } else if (kind < 7) {
            same("save", () -> x.save(), model.save());
        } else {
            same("restore", () -> x.restore(), model.restore());
        }
    }

    private String command() {
        char kind = LETTERS.charAt(below(10));
        String pair = "" + below(4) + below(4);
        String place = "" + below(4) + below(2);
        return switch (kind) {
            case 's' -> kind + place + "@" + below(5) + "*" + (1 + below(4));
            case 'u', 'd' -> kind + place + "@" + below(5) + "*" + 2 * (1 + below(2));
            case 'r' -> kind + place + "*" + (1 + below(4));
            case 'x' -> kind + place;
            case 'q' -> kind + pair + below(3);
            case 'e' -> kind + pair + below(10);
            case 'c' -> kind + "" + below(3) + ">" + below(6);
            default -> "" + kind;
        };
    }

    private int text() {
        StringBuilder text = new StringBuilder(below(12) == 0 ? "" : command());
        for (int more = below(5); more > 0; more--) {
            text.append(';').append(command());
        }
        if (text.length() > 0 && below(3) == 0) {
            int at = below(text.length());
            text.setCharAt(at, "bsr0;@*>9x\u00e9".charAt(below(11)));
        }
        if (below(5) == 0) {
            text.setLength(below(text.length() + 1));
        }
        int typed = Math.min(text.length(), 60);
        for (int index = 0; index < typed; index++) {
            char character = text.charAt(index);
            same("append " + character, () -> x.append(character), model.append(character));
        }
        same("commands of " + text, () -> x.commands(), model.commands());
        same("fault position of " + text, () -> x.faultPosition(), model.faultPosition());
        return typed + 2;
    }

    private void ask() {
        int sister = near(3);
        int bar = bar();
        int beat = near(7);
        int floor = near(4);
        if (below(2) == 0) {
            askOfBar(sister, bar, beat, floor);
        } else {
            askOfHouse(sister, bar, beat, floor);
        }
    }

    private void askOfBar(int sister, int bar, int beat, int floor) {
        String of = " of " + sister + " " + bar + " " + beat + " " + floor;
        switch (below(11)) {
            case 0 -> same("floorAt" + of, () -> x.floorAt(sister, bar, beat), model.floorAt(sister, bar, beat));
            case 1 -> same("sounding" + of, () -> x.sounding(bar, beat), model.sounding(bar, beat));
            case 2 -> same("signOf" + of, () -> x.signOf(sister, bar, beat / 2, floor),
                    model.signOf(sister, bar, beat / 2, floor));
            case 3 -> same("lacking" + of, () -> x.lacking(sister, bar), model.lacking(sister, bar));
            case 4 -> same("steps" + of, () -> x.steps(bar), model.steps(bar));
            case 5 -> same("stepsAgain" + of, () -> x.stepsAgain(bar), model.steps(bar));
            case 6 -> same("key" + of, () -> x.key(bar), model.key(bar));
            case 7 -> same("clashes" + of, () -> x.clashes(bar), model.clashes(bar));
            case 8 -> same("clashesAgain" + of, () -> x.clashesAgain(bar), model.clashes(bar));
            case 9 -> same("beatsOn" + of, () -> x.beatsOn(sister, bar, floor), model.beatsOn(sister, bar, floor));
            default -> same("fullest" + of, () -> x.fullest(bar, beat), model.fullest(bar, beat));
        }
    }

    private void askOfHouse(int sister, int bar, int number, int floor) {
        String of = " of " + sister + " " + bar + " " + number + " " + floor;
        switch (below(15)) {
            case 0 -> same("stepsOf" + of, () -> x.stepsOf(sister), model.stepsOf(sister));
            case 1 -> same("played" + of, () -> x.played(number), model.played(number));
            case 2 -> same("playedSteps" + of, () -> x.playedSteps(), model.playedSteps());
            case 3 -> same("areAlike" + of, () -> x.areAlike(sister, bar, floor), model.areAlike(sister, bar, floor));
            case 4 -> same("wouldClash" + of, () -> x.wouldClash(sister, bar, number - 3),
                    model.wouldClash(sister, bar, number - 3));
            case 5 -> same("bestShift" + of, () -> x.bestShift(sister, bar), model.bestShift(sister, bar));
            case 6 -> same("ranked" + of, () -> x.ranked(sister, floor), model.ranked(sister, floor));
            case 7 -> same("reason" + of, () -> x.reason(floor), model.reason(floor));
            case 8 -> same("line" + of, () -> x.line(sister, bar), model.line(sister, bar));
            case 9 -> same("staff" + of, () -> x.staff(bar, floor), model.staff(bar, floor));
            case 10 -> same("character" + of, () -> x.character(number), model.character(number));
            case 11 -> same("meanSteps" + of, () -> x.meanSteps(), model.meanSteps());
            case 12 -> same("fullShare" + of, () -> x.fullShare(), model.fullShare());
            default -> same("account" + of, () -> x.account(sister + number), model.account(sister + number));
        }
    }
}
