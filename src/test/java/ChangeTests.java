/** Promises 1 to 10: a new object, and the calls that change the house. */
public final class ChangeTests {
    private static final int MIN = Integer.MIN_VALUE;
    private static final int MAX = Integer.MAX_VALUE;

    private ChangeTests() {
    }

    public static void main(String[] args) {
        promise1();
        promise2();
        promise3();
        promise4();
        promise5();
        promise6();
        promise7();
        promise8();
        promise8Bars();
        promise9();
        promise10();
        reasonsStay();
        TestKit.finish();
    }

    private static void promise1() {
        SisterSteps x = new SisterSteps();
        int[] accounts = {0, 0, 0, 0, 0, 0, -1, -1, 0, 0, 0};
        for (int what = 0; what < accounts.length; what++) {
            TestKit.due("1: account " + what, x.account(what), accounts[what]);
        }
        TestKit.due("1: fault position", x.faultPosition(), -1);
        TestKit.due("1: line", TestKit.lineOf(x), "");
        TestKit.due("1: played steps", x.playedSteps(), 0);
        TestKit.due("1: reason", TestKit.answerOf(() -> x.reason(0)), "throws.NoSuchElementException");
        TestKit.due("1: two objects are apart", TestKit.newHouse(3).account(0) + x.account(0), 3);
    }

    private static void promise2() {
        SisterSteps x = new SisterSteps();
        for (int bar = 0; bar < 8; bar++) {
            TestKit.due("2: bar", x.bar(), bar);
            TestKit.due("2: without signs", x.lacking(3, bar), 8);
        }
        TestKit.refused(x, "2: ninth bar", 2, 8, () -> x.bar());
        TestKit.due("2: bars", x.account(0), 8);
    }

    private static void promise3() {
        SisterSteps x = TestKit.newHouse(2);
        TestKit.due("3: step", x.step(3, 1, 4, 1), 7);
        TestKit.due("3: step", x.step(3, 1, 0, 4), 3);
        TestKit.due("3: other row", x.step(3, 0, 0, 2), 6);
        TestKit.due("3: other sister", x.step(2, 1, 0, 3), 5);
        for (int bad : new int[] {-1, 4, MIN, MAX}) {
            TestKit.refused(x, "3: sister " + bad, 1, 0, () -> x.step(bad, 0, 0, 1));
        }
        for (int bad : new int[] {-1, 5, MIN, MAX}) {
            TestKit.refused(x, "3: floor " + bad, 1, 0, () -> x.step(0, 0, bad, 1));
        }
        for (int bad : new int[] {-1, 0, 5, MIN, MAX}) {
            TestKit.refused(x, "3: length " + bad, 1, 0, () -> x.step(0, 0, 0, bad));
        }
        for (int bad : new int[] {-1, 2, 8, MIN, MAX}) {
            TestKit.refused(x, "3: bar " + bad, 3, 2, () -> x.step(0, bad, 0, 1));
        }
        TestKit.refused(x, "3: range ahead of the bar", 1, 0, () -> x.step(0, 9, 0, 0));
        TestKit.refused(x, "3: too few", 4, 3, () -> x.step(3, 1, 0, 4));
        TestKit.due("3: just enough", x.step(3, 1, 2, 3), 0);
        TestKit.refused(x, "3: none left", 4, 0, () -> x.step(3, 1, 0, 1));
        SisterSteps small = TestKit.newHouse(1);
        for (int beat = 0; beat < 8; beat++) {
            TestKit.due("3: eight signs", small.step(0, 0, beat % 5, 1), 7 - beat);
        }
    }

    private static void promise4() {
        SisterSteps x = TestKit.newHouse(1);
        TestKit.due("4: rest", x.rest(0, 0, 4), 4);
        TestKit.due("4: rest", x.rest(0, 0, 1), 3);
        TestKit.due("4: does not sound", x.floorAt(0, 0, 0), -1);
        TestKit.refused(x, "4: sister", 1, 0, () -> x.rest(4, 0, 1));
        TestKit.refused(x, "4: sister", 1, 0, () -> x.rest(-1, 0, 1));
        TestKit.refused(x, "4: length", 1, 0, () -> x.rest(0, 0, 0));
        TestKit.refused(x, "4: length", 1, 0, () -> x.rest(0, 0, 5));
        TestKit.refused(x, "4: range ahead of the bar", 1, 0, () -> x.rest(0, 1, 5));
        TestKit.refused(x, "4: bar", 3, 1, () -> x.rest(0, 1, 1));
        TestKit.refused(x, "4: bar", 3, 1, () -> x.rest(0, -1, 1));
        TestKit.refused(x, "4: too few", 4, 3, () -> x.rest(0, 0, 4));
        TestKit.due("4: just enough", x.rest(0, 0, 3), 0);
    }

    private static void promise5() {
        SisterSteps x = TestKit.newHouse(1);
        TestKit.due("5: up", x.stair(0, 0, 3, 2, true), 6);
        TestKit.due("5: down", x.stair(0, 0, 1, 4, false), 2);
        int[] floors = {3, 4, 1, 1, 0, 0, -1, -1};
        for (int beat = 0; beat < 8; beat++) {
            TestKit.due("5: floor in beat " + beat, x.floorAt(0, 0, beat), floors[beat]);
        }
        for (int bad : new int[] {-1, 0, 1, 3, 5, 6, MIN, MAX}) {
            TestKit.refused(x, "5: length " + bad, 1, 0, () -> x.stair(0, 0, 1, bad, true));
        }
        TestKit.refused(x, "5: sister", 1, 0, () -> x.stair(4, 0, 1, 2, true));
        TestKit.refused(x, "5: floor", 1, 0, () -> x.stair(0, 0, 5, 2, false));
        TestKit.refused(x, "5: floor", 1, 0, () -> x.stair(0, 0, -1, 2, true));
        TestKit.refused(x, "5: range ahead of leaving", 1, 0, () -> x.stair(0, 0, 4, 3, true));
        TestKit.refused(x, "5: leaves above", 5, 4, () -> x.stair(0, 0, 4, 2, true));
        TestKit.refused(x, "5: leaves below", 5, 0, () -> x.stair(0, 0, 0, 2, false));
        TestKit.refused(x, "5: leaving ahead of the bar", 5, 4, () -> x.stair(0, 7, 4, 2, true));
        TestKit.refused(x, "5: leaving ahead of the beats", 5, 4, () -> x.stair(0, 0, 4, 4, true));
        TestKit.refused(x, "5: bar", 3, 1, () -> x.stair(0, 1, 1, 2, true));
        TestKit.refused(x, "5: too few", 4, 2, () -> x.stair(0, 0, 1, 4, true));
        TestKit.due("5: from the top", x.stair(0, 0, 4, 2, false), 0);
    }

    private static void promise6() {
        SisterSteps x = TestKit.newHouse(2);
        TestKit.tell(x, "s01@2*3;r01*1;u01@0*2");
        TestKit.due("6: stair", x.takeBack(0, 1), 2);
        TestKit.due("6: floor is gone", x.floorAt(0, 1, 5), -1);
        TestKit.due("6: rest", x.takeBack(0, 1), 1);
        TestKit.due("6: left", x.lacking(0, 1), 5);
        TestKit.due("6: step behind it", x.step(0, 1, 4, 4), 1);
        TestKit.due("6: its floor", x.floorAt(0, 1, 3), 4);
        TestKit.due("6: step", x.takeBack(0, 1), 4);
        TestKit.due("6: step", x.takeBack(0, 1), 3);
        TestKit.due("6: taken away", x.account(8), 4);
        TestKit.refused(x, "6: no sign", 6, 1, () -> x.takeBack(0, 1));
        TestKit.refused(x, "6: bar", 3, 2, () -> x.takeBack(0, 2));
        TestKit.refused(x, "6: bar", 3, 2, () -> x.takeBack(0, -1));
        TestKit.refused(x, "6: sister ahead of the bar", 1, 0, () -> x.takeBack(4, 2));
        TestKit.refused(x, "6: sister", 1, 0, () -> x.takeBack(-1, 0));
    }

    private static void promise7() {
        SisterSteps x = TestKit.newHouse(3);
        int[][] pairs = {{0, 1}, {2, 0}, {0, 3}, {2, 1}, {1, 3}, {3, 2}};
        int key = 0;
        for (int pair = 0; pair < 6; pair++) {
            key |= 1 << pair;
            TestKit.due("7: key with pair " + pair, x.quarrel(pairs[pair][0], pairs[pair][1], 1), key);
        }
        TestKit.due("7: not ahead of it", x.key(0), 0);
        TestKit.due("7: in later ones", x.key(2), 63);
        TestKit.refused(x, "7: already", 8, 1, () -> x.quarrel(1, 0, 0));
        TestKit.refused(x, "7: one sister", 7, 3, () -> x.quarrel(3, 3, 9));
        TestKit.refused(x, "7: bar", 3, 3, () -> x.quarrel(0, 1, 3));
        TestKit.refused(x, "7: bar", 3, 3, () -> x.quarrel(0, 1, -1));
        TestKit.refused(x, "7: range ahead of one sister", 1, 0, () -> x.quarrel(4, 4, 0));
        TestKit.refused(x, "7: one", 1, 0, () -> x.quarrel(-1, 0, 0));
        TestKit.refused(x, "7: other", 1, 0, () -> x.quarrel(0, 4, 0));
        SisterSteps ended = TestKit.newHouse(3);
        ended.quarrel(2, 3, 0);
        ended.end(2, 3, 1);
        TestKit.refused(ended, "7: ended is a quarrel still", 8, 0, () -> ended.quarrel(3, 2, 2));
    }

    private static void promise8() {
        SisterSteps x = TestKit.newHouse(4);
        TestKit.refused(x, "8: none", 9, 0, () -> x.end(0, 1, 0));
        x.quarrel(1, 0, 1);
        TestKit.refused(x, "8: at its begin", 10, 1, () -> x.end(0, 1, 1));
        TestKit.refused(x, "8: ahead of it", 10, 1, () -> x.end(0, 1, 0));
        TestKit.due("8: end", x.end(1, 0, 3), 2);
        TestKit.due("8: key of the end", x.key(3), 0);
        TestKit.due("8: key ahead of it", x.key(2), 1);
        TestKit.due("8: told anew", x.end(0, 1, 2), 1);
        TestKit.due("8: not there yet", x.end(0, 1, 8), 3);
        TestKit.refused(x, "8: range", 1, 0, () -> x.end(0, 1, 9));
        TestKit.refused(x, "8: range", 1, 0, () -> x.end(0, 1, -1));
        TestKit.refused(x, "8: range ahead of one sister", 1, 0, () -> x.end(2, 2, 9));
        TestKit.refused(x, "8: sister", 1, 0, () -> x.end(4, 0, 1));
        TestKit.refused(x, "8: sister", 1, 0, () -> x.end(0, -1, 1));
        TestKit.refused(x, "8: one sister", 7, 2, () -> x.end(2, 2, 1));
        TestKit.refused(x, "8: other pair", 9, 0, () -> x.end(0, 2, 3));
    }

    private static void promise8Bars() {
        SisterSteps x = TestKit.newHouse(1);
        x.quarrel(0, 3, 0);
        TestKit.due("8: end not there yet", x.end(0, 3, 2), 1);
        x.bar();
        x.bar();
        TestKit.due("8: still in bar 1", x.key(1), 4);
        TestKit.due("8: no more in bar 2", x.key(2), 0);
        SisterSteps full = TestKit.newHouse(8);
        full.quarrel(0, 3, 7);
        TestKit.due("8: end behind all", full.end(0, 3, 8), 1);
        TestKit.due("8: last bar", full.key(7), 4);
        full.quarrel(0, 1, 0);
        TestKit.due("8: without end to the last bar", full.key(7), 5);
    }

    private static void promise9() {
        SisterSteps x = TestKit.newHouse(5);
        TestKit.due("9: coda", x.coda(0, 4), 2);
        TestKit.due("9: anew", x.coda(1, 3), 4);
        TestKit.refused(x, "9: next bar", 11, 2, () -> x.coda(1, 2));
        TestKit.refused(x, "9: the same", 11, 5, () -> x.coda(4, 4));
        TestKit.refused(x, "9: earlier", 11, 4, () -> x.coda(3, 0));
        for (int bad : new int[] {-1, 5, MIN, MAX}) {
            TestKit.refused(x, "9: bar " + bad, 3, 5, () -> x.coda(bad, 4));
            TestKit.refused(x, "9: to " + bad, 3, 5, () -> x.coda(0, bad));
        }
        TestKit.due("9: bar added behind", x.bar(), 5);
        TestKit.due("9: is played", x.account(5), 5);
        TestKit.due("9: is played", x.played(4), 5);
    }

    private static void promise10() {
        SisterSteps x = TestKit.newHouse(4);
        TestKit.refused(x, "10: none", 12, 0, () -> x.noCoda());
        x.coda(1, 3);
        TestKit.due("10: the later bar", x.noCoda(), 3);
        TestKit.due("10: all are played", x.account(5), 4);
        TestKit.due("10: accounts", x.account(6) + x.account(7), -2);
        TestKit.refused(x, "10: again", 12, 0, () -> x.noCoda());
    }

    private static void reasonsStay() {
        SisterSteps x = TestKit.newHouse(8);
        TestKit.answerOf(() -> x.bar());
        x.step(0, 0, 0, 1);
        TestKit.due("a success keeps the reason", x.reason(0), 2);
        TestKit.answerOf(() -> x.takeBack(1, 5));
        TestKit.due("a later refusal replaces it", x.reason(0), 6);
        TestKit.due("a later refusal replaces it", x.reason(1), 5);
    }
}
