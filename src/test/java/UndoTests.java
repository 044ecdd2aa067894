/** Promises 38 to 41: accounts, undo, and the snapshot. */
public final class UndoTests {
    private UndoTests() {
    }

    public static void main(String[] args) {
        promise38();
        promise39();
        promise39EachChange();
        promise39WhatStays();
        promise39Rows();
        promise40();
        promise41();
        TestKit.finish();
    }

    private static void promise38() {
        SisterSteps x = TestKit.newHouse(5);
        TestKit.tell(x, "s00@1*4;s10@1*2;r20*1;d32@3*2;s12@3*1;q010;q131;e014");
        x.coda(1, 4);
        x.takeBack(2, 0);
        TestKit.type(x, "bb");
        int[] accounts = {5, 4, 9, 3, 2, 3, 1, 4, 1, 8, 2};
        for (int what = 0; what < accounts.length; what++) {
            TestKit.due("38: account " + what, x.account(what), accounts[what]);
        }
        for (int bad : new int[] {-1, 11, Integer.MIN_VALUE, Integer.MAX_VALUE}) {
            TestKit.rejected(x, "38: what", IllegalArgumentException.class, () -> x.account(bad));
        }
    }

    private static void promise39() {
        SisterSteps x = new SisterSteps();
        TestKit.rejected(x, "39: none", IllegalStateException.class, () -> x.undo());
        x.bar();
        TestKit.due("39: one", x.undo(), 0);
        TestKit.due("39: bar is gone", x.account(0), 0);
        x.bar();
        for (int step = 0; step < 4; step++) {
            x.step(0, 0, step, 1);
            x.rest(1, 0, 1);
        }
        TestKit.due("39: eight are kept", x.account(9), 8);
        for (int left = 7; left >= 0; left--) {
            TestKit.due("39: undo", x.undo(), left);
        }
        TestKit.due("39: the ninth stays", x.account(0), 1);
        TestKit.due("39: the rest is undone", x.account(1), 0);
        TestKit.rejected(x, "39: none left", IllegalStateException.class, () -> x.undo());
        for (int round = 0; round < 3; round++) {
            TestKit.due("39: change again", x.step(2, 0, 1, 1), 7 - round);
        }
        TestKit.due("39: undo again", x.undo(), 2);
        TestKit.due("39: undo again", x.lacking(2, 0), 6);
    }

    private static void promise39EachChange() {
        SisterSteps x = TestKit.newHouse(3);
        TestKit.tell(x, "s00@1*1;q010");
        Runnable[] changes = {() -> x.bar(), () -> x.step(0, 0, 3, 2), () -> x.rest(0, 0, 2),
            () -> x.stair(0, 0, 3, 2, false), () -> x.takeBack(0, 0), () -> x.quarrel(2, 3, 1), () -> x.end(0, 1, 2),
            () -> x.coda(0, 2), () -> x.noCoda(), () -> TestKit.tell(x, "b;x00;c0>3;e011;s20@0*4")};
        for (int number = 0; number < changes.length; number++) {
            String before = TestKit.undoableOf(x);
            changes[number].run();
            x.undo();
            TestKit.due("39: undone change " + number, TestKit.undoableOf(x), before);
            changes[number].run();
        }
    }

    private static void promise39WhatStays() {
        SisterSteps x = TestKit.newHouse(1);
        x.step(0, 0, 2, 2);
        x.line(0, 0);
        TestKit.answerOf(() -> TestKit.tell(x, "b;"));
        TestKit.answerOf(() -> x.noCoda());
        TestKit.type(x, "bb");
        x.takeBack(0, 0);
        TestKit.due("39: taken away", x.account(8), 1);
        TestKit.due("39: refused and asked calls do not count", x.undo(), 2);
        TestKit.due("39: not taken away", x.account(8), 0);
        x.undo();
        TestKit.due("39: line stays", TestKit.lineOf(x), "2*2");
        TestKit.due("39: fault position stays", x.faultPosition(), 2);
        TestKit.due("39: reason stays", x.reason(0), 12);
        TestKit.due("39: buffer stays", x.account(10), 2);
    }

    private static void promise39Rows() {
        SisterSteps x = TestKit.newHouse(8);
        TestKit.tell(x, "s37@2*3;u37@1*2;q010");
        String before = TestKit.undoableOf(x);
        x.takeBack(3, 7);
        x.takeBack(3, 7);
        x.step(3, 7, 4, 1);
        x.rest(3, 7, 4);
        x.end(0, 1, 3);
        x.undo();
        TestKit.due("39: end is undone", x.key(7), 1);
        for (int undone = 1; undone < 5; undone++) {
            x.undo();
        }
        TestKit.due("39: the signs before are back", TestKit.undoableOf(x), before);
    }

    private static void promise40() {
        SisterSteps x = new SisterSteps();
        TestKit.due("40: empty", x.save(), 0);
        x.bar();
        x.bar();
        TestKit.due("40: in place of the earlier", x.save(), 2);
        TestKit.due("40: saving is no change", x.account(9), 2);
        TestKit.due("40: undo goes on", x.undo(), 1);
        TestKit.due("40: undo leaves the snapshot", x.restore(), 2);
    }

    private static void promise41() {
        SisterSteps none = TestKit.newHouse(1);
        TestKit.rejected(none, "41: none", IllegalStateException.class, () -> none.restore());
        SisterSteps x = TestKit.newHouse(4);
        TestKit.tell(x, "s00@1*4;r00*1;q010;q230;e012;c0>3;x00");
        x.line(0, 0);
        x.save();
        String saved = TestKit.undoableOf(x);
        TestKit.tell(x, "b;x00;e013;n;s11@3*4;u11@3*4;q021");
        TestKit.due("41: restore", x.restore(), 4);
        TestKit.due("41: undo is forgotten", x.account(9), 0);
        TestKit.due("41: all is back", TestKit.undoableOf(x), saved);
        TestKit.rejected(x, "41: nothing to undo", IllegalStateException.class, () -> x.undo());
        x.coda(1, 3);
        TestKit.due("41: undo behind it", x.undo(), 0);
        TestKit.due("41: the snapshot is kept", x.restore(), 4);
        TestKit.due("41: taken away", x.account(8), 1);
        TestKit.type(x, "bx");
        x.line(0, 0);
        x.bar();
        TestKit.answerOf(() -> x.takeBack(3, 3));
        x.restore();
        TestKit.due("41: buffer stays", x.account(10), 2);
        TestKit.due("41: line stays", TestKit.lineOf(x), "1*4");
        TestKit.due("41: reason stays", x.reason(0), 6);
    }
}
