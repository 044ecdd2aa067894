import java.util.NoSuchElementException;

/** Promises 29 to 37: the text buffer, the commands, the reason, the lines and the quotients. */
public final class TextTests {
    private TextTests() {
    }

    public static void main(String[] args) {
        promise29();
        promise30();
        promise30Refused();
        promise30Detail();
        promise30Longest();
        promise31();
        promise32();
        promise33();
        promise34();
        promise35();
        promise36();
        promise37();
        TestKit.finish();
    }

    private static void promise29() {
        SisterSteps x = new SisterSteps();
        char[] odd = {'b', ';', (char) 0, (char) 255, (char) 256, (char) 65535};
        for (int index = 0; index < 60; index++) {
            TestKit.due("29: length", x.append(odd[index % odd.length]), index + 1);
        }
        TestKit.due("29: account", x.account(10), 60);
        TestKit.rejected(x, "29: full", IllegalStateException.class, () -> x.append('b'));
        TestKit.due("29: fault", TestKit.answerOf(() -> x.commands()), "throws.IllegalArgumentException");
        TestKit.due("29: empty again", x.append('b'), 1);
    }

    private static void promise30() {
        SisterSteps x = new SisterSteps();
        TestKit.due("30: all kinds", TestKit.tell(x, "b;b;b;s00@2*4;u10@2*2;r10*1;q010;e012;c0>2;d20@4*4;x10;n"), 12);
        TestKit.due("30: one change", x.account(9), 1);
        TestKit.due("30: empty buffer", x.account(10), 0);
        TestKit.due("30: step", x.line(0, 0) + TestKit.lineOf(x), "32*4");
        TestKit.due("30: stair up, rest taken away", x.line(1, 0) + TestKit.lineOf(x), "42^*2");
        TestKit.due("30: stair down", x.line(2, 0) + TestKit.lineOf(x), "44v*4");
        TestKit.due("30: quarrel", x.key(1), 1);
        TestKit.due("30: its end", x.key(2), 0);
        TestKit.due("30: no coda", x.account(7), -1);
        TestKit.due("30: taken away", x.account(8), 1);
        TestKit.due("30: coda", TestKit.tell(x, "c0>2"), 1);
        TestKit.due("30: coda", x.account(6) * 10 + x.account(7), 2);
        TestKit.due("30: undone at once", x.undo() + x.undo(), 1);
        TestKit.due("30: undone at once", x.account(0), 0);
    }

    private static void promise30Refused() {
        SisterSteps x = TestKit.newHouse(2);
        TestKit.tell(x, "s00@1*4;q230;b;c0>2");
        x.line(0, 0);
        String before = TestKit.houseOf(x);
        String[] texts = {"b;s00@1*4;s00@1*1", "x00;n;n", "b;b;b;b;b;b", "s40@0*1", "e230", "q110;b", "c0>1", "u00@4*2",
            "s00@9*1", "r00*0", "r00*9", "e239", "x90", "s09@0*1"};
        int[][] reasons = {{4, 0, 2}, {12, 0, 2}, {2, 8, 5}, {1, 0, 0}, {10, 0, 0}, {7, 1, 0}, {11, 1, 0}, {5, 4, 0},
            {1, 0, 0}, {1, 0, 0}, {1, 0, 0}, {1, 0, 0}, {1, 0, 0}, {3, 3, 0}};
        for (int number = 0; number < texts.length; number++) {
            String text = texts[number];
            TestKit.due("30: " + text, TestKit.answerOf(() -> TestKit.tell(x, text)),
                    "throws.UnsupportedOperationException");
            for (int what = 0; what < 3; what++) {
                TestKit.due("30: " + text + ", reason(" + what + ")", x.reason(what), reasons[number][what]);
            }
            TestKit.due("30: " + text + " carries none out", TestKit.houseOf(x), before);
        }
        TestKit.answerOf(() -> TestKit.tell(x, "b;n;n"));
        TestKit.answerOf(() -> x.takeBack(3, 0));
        TestKit.due("30: another call has the index 0", x.reason(2), 0);
    }

    /** Details tell the house as the commands ahead have left it. */
    private static void promise30Detail() {
        SisterSteps x = new SisterSteps();
        TestKit.due("30: detail", TestKit.answerOf(() -> TestKit.tell(x, "b;b;s02@1*1")),
                "throws.UnsupportedOperationException");
        TestKit.due("30: bars ahead count", x.reason(1), 2);
        TestKit.due("30: no bar stays", x.account(0), 0);
        for (int change = 0; change < 10; change++) {
            TestKit.tell(x, change < 8 ? "b" : "s00@1*1");
            TestKit.answerOf(() -> TestKit.tell(x, "s01@0*4;s01@0*4;x00;x00;x00"));
        }
        TestKit.due("30: refused texts leave the changes", x.account(9), 8);
        for (int left = 7; left >= 0; left--) {
            TestKit.due("30: undo behind refused texts", x.undo(), left);
        }
        TestKit.due("30: undo behind refused texts", x.account(0), 2);
    }

    private static void promise30Longest() {
        SisterSteps x = new SisterSteps();
        String longest = "b;q010;s00@1*1;s00@1*1;s00@1*1;s00@1*1;s00@1*1;s00@1*1;r00*1";
        TestKit.due("30: sixty characters", longest.length(), 60);
        TestKit.due("30: sixty characters", TestKit.tell(x, longest), 9);
        TestKit.type(x, "b;b;b;b;b;b;b;b;b;b;b;b;b;b;b;b;b;b;b;b;b;b;b;b;b;b;b;b;b;b;");
        TestKit.due("30: ends too early", TestKit.answerOf(() -> x.commands()), "throws.IllegalArgumentException");
        TestKit.due("31: the length", x.faultPosition(), 60);
    }

    private static void promise31() {
        String[] texts = {"", "b;", "b b", ";b", "bb", "B", "s", "s00@1*", "s00@1*1", "s00*1", "s0a@1*1", "s00@10*1",
            "r00*1;", "r00@1*1", "u00@1*2x", "d00@1*2;d00@1^2", "x0", "x000", "q01", "q0100", "e01;", "c0>", "c0<2",
            "c00>2", "n1", "b;;b", "y", "b;z", "s00@1*1;r00*1;q010;y", "x/0", "x0:", "x0\u0130"};
        int[] faults = {0, 2, 1, 0, 1, 0, 1, 6, -1, 3, 2, 5, 6, 3, 7, 13, 2, 3, 3, 4, 3, 3, 2, 2, 1, 2, 0, 2, 19, 1, 2,
            2};
        for (int number = 0; number < texts.length; number++) {
            SisterSteps x = TestKit.newHouse(1);
            TestKit.type(x, texts[number]);
            String answer = TestKit.answerOf(() -> x.commands());
            String want = faults[number] < 0 ? "1" : "throws.IllegalArgumentException";
            TestKit.due("31: commands of " + texts[number], answer, want);
            TestKit.due("31: fault of " + texts[number], x.faultPosition(), faults[number]);
            TestKit.due("31: empty buffer", x.account(10), 0);
            TestKit.due("31: bars", x.account(0), 1);
            TestKit.due("31: no reason", TestKit.answerOf(() -> x.reason(0)), "throws.NoSuchElementException");
        }
        SisterSteps x = new SisterSteps();
        TestKit.answerOf(() -> TestKit.tell(x, "b;b;"));
        TestKit.type(x, "b;n");
        TestKit.due("31: of the latest call", x.faultPosition(), 4);
        TestKit.answerOf(() -> x.commands());
        TestKit.due("31: refused without fault", x.faultPosition(), -1);
        TestKit.due("31: index of the command", x.reason(2), 1);
    }

    private static void promise32() {
        SisterSteps x = new SisterSteps();
        for (int bad : new int[] {-1, 3, Integer.MIN_VALUE, Integer.MAX_VALUE}) {
            TestKit.rejected(x, "32: what " + bad, IllegalArgumentException.class, () -> x.reason(bad));
        }
        for (int what = 0; what < 3; what++) {
            int number = what;
            TestKit.rejected(x, "32: nothing", NoSuchElementException.class, () -> x.reason(number));
        }
        TestKit.answerOf(() -> x.takeBack(0, 0));
        TestKit.due("32: reason", x.reason(0), 3);
        TestKit.due("32: detail", x.reason(1), 0);
        TestKit.due("32: command", x.reason(2), 0);
        TestKit.rejected(x, "32: what", IllegalArgumentException.class, () -> x.reason(3));
    }

    private static void promise33() {
        SisterSteps x = TestKit.newHouse(2);
        TestKit.tell(x, "s00@2*4;r00*1;u00@0*2;d01@4*4;d01@1*2");
        TestKit.due("33: length", x.line(0, 0), 12);
        TestKit.due("33: line", TestKit.lineOf(x), "2*4 .*1 0^*2");
        TestKit.due("33: length", x.line(0, 1), 9);
        TestKit.due("33: in place of the line before", TestKit.lineOf(x), "4v*4 1v*2");
        for (int bad : new int[] {-1, 4, Integer.MIN_VALUE, Integer.MAX_VALUE}) {
            TestKit.rejected(x, "33: sister", IndexOutOfBoundsException.class, () -> x.line(bad, 0));
        }
        for (int bad : new int[] {-1, 2, 8, Integer.MIN_VALUE, Integer.MAX_VALUE}) {
            TestKit.rejected(x, "33: bar", IndexOutOfBoundsException.class, () -> x.line(0, bad));
        }
        TestKit.due("33: no signs", x.line(3, 0), 0);
        TestKit.tell(x, "s10@0*1;s10@1*1;s10@2*1;s10@3*1;r10*1;s10@4*1");
        TestKit.tell(x, "s10@1*1;r10*1");
        TestKit.due("33: eight signs", x.line(1, 0), 31);
        TestKit.due("33: eight signs", TestKit.lineOf(x), "0*1 1*1 2*1 3*1 .*1 4*1 1*1 .*1");
    }

    private static void promise34() {
        SisterSteps x = TestKit.newHouse(1);
        TestKit.tell(x, "s00@2*3;u10@1*4;r20*1;s20@2*2;s30@2*4;s30@0*1");
        String[] lines = {"----3---", "11------", "++++----", "--------", "--------"};
        for (int floor = 0; floor < 5; floor++) {
            TestKit.due("34: length", x.staff(0, floor), 8);
            TestKit.due("34: floor " + floor, TestKit.lineOf(x), lines[floor]);
        }
        x.takeBack(3, 0);
        x.takeBack(3, 0);
        x.staff(0, 2);
        TestKit.due("34: one sister", TestKit.lineOf(x), "0++1----");
        x.takeBack(0, 0);
        x.staff(0, 2);
        TestKit.due("34: one sister", TestKit.lineOf(x), "-2+1----");
        for (int bad : new int[] {-1, 1, 8, Integer.MIN_VALUE, Integer.MAX_VALUE}) {
            TestKit.rejected(x, "34: bar", IndexOutOfBoundsException.class, () -> x.staff(bad, 9));
        }
        for (int bad : new int[] {-1, 5, Integer.MIN_VALUE, Integer.MAX_VALUE}) {
            TestKit.rejected(x, "34: floor", IllegalArgumentException.class, () -> x.staff(0, bad));
        }
    }

    private static void promise35() {
        SisterSteps x = TestKit.newHouse(1);
        TestKit.rejected(x, "35: empty at first", IndexOutOfBoundsException.class, () -> x.character(0));
        x.step(0, 0, 3, 2);
        x.line(0, 0);
        TestKit.due("35: characters", "" + x.character(0) + x.character(1) + x.character(2), "3*2");
        x.takeBack(0, 0);
        TestKit.due("35: the line stays", x.character(0), '3');
        for (int bad : new int[] {-1, 3, 60, Integer.MIN_VALUE, Integer.MAX_VALUE}) {
            TestKit.rejected(x, "35: index", IndexOutOfBoundsException.class, () -> x.character(bad));
        }
        x.line(0, 0);
        TestKit.rejected(x, "35: empty line", IndexOutOfBoundsException.class, () -> x.character(0));
    }

    private static void promise36() {
        SisterSteps empty = new SisterSteps();
        TestKit.rejected(empty, "36: none", ArithmeticException.class, () -> empty.meanSteps());
        SisterSteps x = TestKit.newHouse(3);
        TestKit.due("36: no steps", x.meanSteps(), 0.0);
        TestKit.tell(x, "s00@0*4;s11@0*1;r12*4");
        TestKit.due("36: mean", x.meanSteps(), 5.0 / 3.0);
        x.coda(0, 2);
        TestKit.due("36: played or not", x.meanSteps(), 5.0 / 3.0);
    }

    private static void promise37() {
        SisterSteps empty = new SisterSteps();
        TestKit.rejected(empty, "37: none", ArithmeticException.class, () -> empty.fullShare());
        SisterSteps x = TestKit.newHouse(3);
        TestKit.tell(x, "s00@0*4;s00@0*3;r11*4;r11*4");
        TestKit.due("37: share", x.fullShare(), 1.0f / 12.0f);
        x.rest(0, 0, 1);
        TestKit.due("37: share", x.fullShare(), 2.0f / 12.0f);
        x.takeBack(1, 1);
        TestKit.due("37: share", x.fullShare(), 1.0f / 12.0f);
    }
}
