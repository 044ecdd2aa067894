import java.util.NoSuchElementException;
import java.util.function.IntFunction;

/** Promises 11 to 28: what is asked of the house. */
public final class QuestionTests {
    private static final int[] BAD_SISTERS = {-1, 4, Integer.MIN_VALUE, Integer.MAX_VALUE};
    private static final int[] BAD_BARS = {-1, 4, 8, Integer.MIN_VALUE, Integer.MAX_VALUE};
    private static final int[] BAD_BEATS = {-1, 8, Integer.MIN_VALUE, Integer.MAX_VALUE};
    private static final int[] BAD_FLOORS = {-1, 5, Integer.MIN_VALUE, Integer.MAX_VALUE};

    private QuestionTests() {
    }

    public static void main(String[] args) {
        promise11();
        promise12();
        promise13();
        promise14();
        promises15To17();
        promise18();
        promises19And20();
        promise21();
        promise22();
        promise23();
        promise24();
        promise25();
        promise26();
        promise27();
        promise27Ties();
        promise28();
        lowestFloorAndFirstBeat();
        fullHouse();
        TestKit.finish();
    }

    /** Four bars; 0: 2222 12. and a beat lacking, 222 3322, -, 2......; all but sister 3 quarrel. */
    private static SisterSteps filled() {
        SisterSteps x = TestKit.newHouse(4);
        TestKit.tell(x, "s00@2*4;u00@1*2;r00*1;s10@2*3;d10@3*4;s30@2*1");
        TestKit.tell(x, "q010;q020;q120;e013;s03@4*4;s13@4*2;s12@0*3");
        return x;
    }

    private static void outside(SisterSteps x, String what, int[] bad, Class<?> exception, IntFunction<?> call) {
        for (int number : bad) {
            TestKit.rejected(x, what + " " + number, exception, () -> call.apply(number));
        }
    }

    private static void badSisters(SisterSteps x, String what, IntFunction<?> call) {
        outside(x, what + ": sister", BAD_SISTERS, IndexOutOfBoundsException.class, call);
    }

    private static void badBars(SisterSteps x, String what, IntFunction<?> call) {
        outside(x, what + ": bar", BAD_BARS, IndexOutOfBoundsException.class, call);
    }

    private static void badBeats(SisterSteps x, String what, IntFunction<?> call) {
        outside(x, what + ": beat", BAD_BEATS, IllegalArgumentException.class, call);
    }

    private static void badFloors(SisterSteps x, String what, IntFunction<?> call) {
        outside(x, what + ": floor", BAD_FLOORS, IllegalArgumentException.class, call);
    }

    private static void promise11() {
        SisterSteps x = filled();
        int[][] floors = {{2, 2, 2, 2, 1, 2, -1, -1}, {2, 2, 2, 3, 3, 2, 2, -1}, {-1, -1, -1, -1, -1, -1, -1, -1}};
        for (int sister = 0; sister < 3; sister++) {
            for (int beat = 0; beat < 8; beat++) {
                TestKit.due("11: floor", x.floorAt(sister, 0, beat), floors[sister][beat]);
            }
        }
        badSisters(x, "11", bad -> x.floorAt(bad, 0, 0));
        badBars(x, "11", bad -> x.floorAt(0, bad, 0));
        badBeats(x, "11", bad -> x.floorAt(0, 0, bad));
        badSisters(x, "11 ahead of the beat", bad -> x.floorAt(bad, 0, 9));
        badBars(x, "11 ahead of the beat", bad -> x.floorAt(0, bad, 9));
    }

    private static void promise12() {
        SisterSteps x = filled();
        int[] sets = {11, 3, 3, 3, 3, 3, 2, 0};
        for (int beat = 0; beat < 8; beat++) {
            TestKit.due("12: sounding", x.sounding(0, beat), sets[beat]);
        }
        badBars(x, "12", bad -> x.sounding(bad, 9));
        badBeats(x, "12", bad -> x.sounding(0, bad));
    }

    private static void promise13() {
        SisterSteps x = filled();
        TestKit.tell(x, "d01@4*4");
        int[][] signs = {{0, 4, 0, 2}, {2, 2, 4, 1}, {1, 1, 6, -1}};
        for (int place = 0; place < 3; place++) {
            for (int what = 0; what < 4; what++) {
                TestKit.due("13: sign", x.signOf(0, 0, place, what), signs[place][what]);
            }
        }
        TestKit.due("13: stair down", x.signOf(0, 1, 0, 0), 3);
        TestKit.due("13: its floor", x.signOf(0, 1, 0, 3), 4);
        badSisters(x, "13", bad -> x.signOf(bad, 0, 9, 9));
        badBars(x, "13", bad -> x.signOf(0, bad, 9, 9));
        outside(x, "13: place", new int[] {-1, 3, 8, Integer.MAX_VALUE, Integer.MIN_VALUE},
                NoSuchElementException.class, bad -> x.signOf(0, 0, bad, 9));
        outside(x, "13: what", new int[] {-1, 4, Integer.MAX_VALUE, Integer.MIN_VALUE},
                IllegalArgumentException.class, bad -> x.signOf(0, 0, 0, bad));
        x.takeBack(0, 0);
        TestKit.rejected(x, "13: taken away", NoSuchElementException.class, () -> x.signOf(0, 0, 2, 0));
    }

    private static void promise14() {
        SisterSteps x = filled();
        TestKit.due("14: lacking", x.lacking(0, 0), 1);
        TestKit.due("14: lacking", x.lacking(2, 0), 8);
        x.rest(0, 0, 1);
        TestKit.due("14: full", x.lacking(0, 0), 0);
        badSisters(x, "14", bad -> x.lacking(bad, 0));
        badBars(x, "14", bad -> x.lacking(0, bad));
    }

    private static void promises15To17() {
        SisterSteps x = filled();
        int[] steps = {14, 0, 3, 6};
        int[] sums = {10, 12, 0, 1};
        for (int number = 0; number < 4; number++) {
            TestKit.due("15: steps", x.steps(number), steps[number]);
            TestKit.due("16: steps", x.stepsAgain(number), steps[number]);
            TestKit.due("17: steps", x.stepsOf(number), sums[number]);
        }
        x.coda(0, 3);
        TestKit.due("17: played or not", x.stepsOf(1), 12);
        badBars(x, "15", bad -> x.steps(bad));
        badBars(x, "16", bad -> x.stepsAgain(bad));
        badSisters(x, "17", bad -> x.stepsOf(bad));
    }

    private static void promise18() {
        SisterSteps x = filled();
        TestKit.due("18: key", x.key(0), 11);
        TestKit.due("18: key", x.key(2), 11);
        TestKit.due("18: ended", x.key(3), 10);
        badBars(x, "18", bad -> x.key(bad));
    }

    private static void promises19And20() {
        SisterSteps x = filled();
        TestKit.due("19: clashes", x.clashes(0), 4);
        TestKit.due("20: clashes", x.clashesAgain(0), 4);
        TestKit.due("19: ended", x.clashes(3), 0);
        TestKit.due("20: ended", x.clashesAgain(3), 0);
        TestKit.tell(x, "s20@2*4;q230");
        TestKit.due("19: each pair for itself", x.clashes(0), 4 + 4 + 3 + 1);
        TestKit.due("20: each pair for itself", x.clashesAgain(0), 4 + 4 + 3 + 1);
        badBars(x, "19", bad -> x.clashes(bad));
        badBars(x, "20", bad -> x.clashesAgain(bad));
    }

    private static void promise21() {
        SisterSteps x = filled();
        int[] sets = {0, 16, 47, 0, 0};
        for (int floor = 0; floor < 5; floor++) {
            TestKit.due("21: beats", x.beatsOn(0, 0, floor), sets[floor]);
        }
        TestKit.due("21: none", x.beatsOn(2, 0, 0), 0);
        badSisters(x, "21", bad -> x.beatsOn(bad, 0, 9));
        badBars(x, "21", bad -> x.beatsOn(0, bad, 9));
        badFloors(x, "21", bad -> x.beatsOn(0, 0, bad));
    }

    private static void promise22() {
        SisterSteps x = filled();
        TestKit.due("22: most", x.fullest(0, 0), 2);
        TestKit.due("22: of several the lowest", x.fullest(0, 4), 1);
        TestKit.due("22: of several the lowest", x.fullest(0, 3), 2);
        TestKit.tell(x, "r20*3;s20@3*1");
        TestKit.due("22: more above", x.fullest(0, 3), 3);
        badBars(x, "22", bad -> x.fullest(bad, 9));
        badBeats(x, "22", bad -> x.fullest(1, bad));
        TestKit.rejected(x, "22: none", NoSuchElementException.class, () -> x.fullest(0, 7));
        TestKit.rejected(x, "22: none", NoSuchElementException.class, () -> x.fullest(1, 0));
    }

    private static void promise23() {
        SisterSteps x = TestKit.newHouse(6);
        for (int place = 0; place < 6; place++) {
            TestKit.due("23: no coda", x.played(place), place);
        }
        x.coda(1, 4);
        int[] bars = {0, 1, 4, 5};
        for (int place = 0; place < 4; place++) {
            TestKit.due("23: coda", x.played(place), bars[place]);
        }
        outside(x, "23: place", new int[] {-1, 4, 6, Integer.MIN_VALUE, Integer.MAX_VALUE},
                NoSuchElementException.class, bad -> x.played(bad));
        SisterSteps empty = new SisterSteps();
        TestKit.rejected(empty, "23: no bars", NoSuchElementException.class, () -> empty.played(0));
    }

    private static void promise24() {
        SisterSteps x = filled();
        TestKit.due("24: all", x.playedSteps(), 23);
        x.coda(1, 3);
        TestKit.due("24: coda", x.playedSteps(), 20);
        x.coda(0, 2);
        TestKit.due("24: coda", x.playedSteps(), 23);
    }

    private static void promise25() {
        SisterSteps x = TestKit.newHouse(4);
        TestKit.tell(x, "s00@1*2;s00@2*2;r00*2;u01@1*4;s02@1*2;d02@3*2;s02@2*1");
        TestKit.due("25: same floors by other signs", x.areAlike(0, 0, 1), true);
        TestKit.due("25: other floor", x.areAlike(0, 0, 2), false);
        TestKit.due("25: longer", x.areAlike(0, 2, 3), false);
        TestKit.due("25: itself", x.areAlike(0, 2, 2), true);
        TestKit.due("25: other sister", x.areAlike(1, 0, 2), true);
        x.rest(1, 0, 4);
        TestKit.due("25: a rest is as nowhere", x.areAlike(1, 0, 2), true);
        badSisters(x, "25", bad -> x.areAlike(bad, 0, 0));
        badBars(x, "25", bad -> x.areAlike(0, bad, 0));
        badBars(x, "25", bad -> x.areAlike(0, 0, bad));
    }

    private static void promise26() {
        SisterSteps x = filled();
        int[] clashing = {0, 4, 1, 1};
        for (int by = -1; by <= 2; by++) {
            TestKit.due("26: by " + by, x.wouldClash(0, 0, by), clashing[by + 1]);
        }
        TestKit.due("26: nothing moved", x.clashes(0), 4);
        TestKit.due("26: signs of another", x.wouldClash(3, 0, 1), 4);
        TestKit.due("26: no signs", x.wouldClash(2, 0, -4), 4);
        x.rest(2, 0, 4);
        TestKit.due("26: only a rest", x.wouldClash(2, 0, 4), 4);
        for (int by : new int[] {-4, -3, -2, 3, 4}) {
            TestKit.rejected(x, "26: leaves by " + by, NoSuchElementException.class, () -> x.wouldClash(0, 0, by));
        }
        badSisters(x, "26", bad -> x.wouldClash(bad, 0, 9));
        badBars(x, "26", bad -> x.wouldClash(0, bad, 9));
        outside(x, "26: by", new int[] {-5, 5, Integer.MIN_VALUE, Integer.MAX_VALUE},
                IllegalArgumentException.class, bad -> x.wouldClash(0, 0, bad));
    }

    private static void promise27() {
        SisterSteps x = filled();
        TestKit.due("27: below", x.bestShift(0, 0), -1);
        TestKit.due("27: above", x.bestShift(1, 0), 1);
        TestKit.due("27: no signs", x.bestShift(2, 0), 0);
        TestKit.due("27: no quarrel", x.bestShift(3, 0), 0);
        badSisters(x, "27", bad -> x.bestShift(bad, 0));
        badBars(x, "27", bad -> x.bestShift(0, bad));
    }

    private static void promise27Ties() {
        SisterSteps x = TestKit.newHouse(5);
        TestKit.tell(x, "q010;q020;q030;s00@2*1;s10@2*1;s20@1*1");
        TestKit.due("27: one below is taken", x.bestShift(0, 0), 1);
        TestKit.tell(x, "s30@3*1");
        TestKit.due("27: as near, the one below", x.bestShift(0, 0), -2);
        TestKit.tell(x, "s01@0*1;s11@0*1");
        TestKit.due("27: none below the house", x.bestShift(0, 1), 1);
        TestKit.tell(x, "s02@4*1;s12@4*1");
        TestKit.due("27: none above the house", x.bestShift(0, 2), -1);
        TestKit.tell(x, "s03@0*4;s13@0*4;s23@1*4;s33@2*4");
        TestKit.due("27: as far as needed", x.bestShift(0, 3), 3);
        TestKit.tell(x, "s04@0*2;s04@4*2;s14@0*2");
        TestKit.due("27: nowhere to go", x.bestShift(0, 4), 0);
        farthestShift();
    }

    private static void farthestShift() {
        SisterSteps x = TestKit.newHouse(2);
        TestKit.tell(x, "q010;q020;q030;s00@0*4;s10@0*1;s10@1*1;s10@2*1;s10@3*1");
        TestKit.tell(x, "s20@1*4;s30@2*2;s30@3*2");
        TestKit.due("27: four floors up", x.bestShift(0, 0), 4);
        TestKit.tell(x, "s01@4*4;s11@4*1;s11@3*1;s11@2*1;s11@1*1");
        TestKit.tell(x, "s21@3*4;s31@2*2;s31@1*2");
        TestKit.due("27: four floors down", x.bestShift(0, 1), -4);
    }

    private static void promise28() {
        SisterSteps x = filled();
        int[][] orders = {{0, 3, 2, 1}, {0, 1, 2, 3}, {1, 2, 3, 0}, {0, 1, 2, 3}};
        for (int measure = 0; measure < 4; measure++) {
            for (int place = 0; place < 4; place++) {
                TestKit.due("28: measure " + measure, x.ranked(measure, place), orders[measure][place]);
            }
        }
        x.quarrel(1, 3, 3);
        x.quarrel(2, 3, 3);
        TestKit.due("28: most pairs", x.ranked(3, 0), 3);
        outside(x, "28: measure", new int[] {-1, 4, Integer.MIN_VALUE, Integer.MAX_VALUE},
                IllegalArgumentException.class, bad -> x.ranked(bad, 9));
        outside(x, "28: place", new int[] {-1, 4, Integer.MIN_VALUE, Integer.MAX_VALUE},
                NoSuchElementException.class, bad -> x.ranked(0, bad));
        x.coda(0, 3);
        TestKit.due("28: played or not", x.ranked(0, 3), 1);
    }

    private static void lowestFloorAndFirstBeat() {
        SisterSteps x = TestKit.newHouse(2);
        TestKit.tell(x, "q010;s00@0*1;s10@0*1;s01@1*1;s11@0*1;s21@3*1");
        TestKit.due("20: on floor 0", x.clashesAgain(0), 1);
        TestKit.due("19: on floor 0", x.clashes(0), 1);
        TestKit.due("21: on floor 0", x.beatsOn(0, 0, 0), 1);
        TestKit.due("22: floor 0", x.fullest(0, 0), 0);
        TestKit.due("22: floor 0 of several", x.fullest(1, 0), 0);
        TestKit.due("25: the first beat differs", x.areAlike(0, 0, 1), false);
        TestKit.tell(x, "r20*4;r20*3;s20@1*1;r21*4;r21*3");
        TestKit.due("25: the last beat differs", x.areAlike(2, 0, 1), false);
        TestKit.due("21: in the last beat", x.beatsOn(2, 0, 1), 128);
        TestKit.due("22: in the last beat", x.fullest(0, 7), 1);
    }

    /** Eight bars that are full for each sister, all on floor 4, and all of them quarrel. */
    private static void fullHouse() {
        SisterSteps x = TestKit.newHouse(8);
        for (int bar = 0; bar < 8; bar++) {
            for (int sister = 0; sister < 4; sister++) {
                x.step(sister, bar, 4, 4);
                x.step(sister, bar, 4, 4);
            }
        }
        TestKit.tell(x, "q010;q020;q030;q120;q130;q230");
        for (int bar = 0; bar < 8; bar++) {
            askFullBar(x, bar);
        }
        TestKit.due("17: full", x.stepsOf(3), 64);
        TestKit.due("24: full", x.playedSteps(), 256);
        TestKit.due("36: full", x.meanSteps(), 32.0);
        TestKit.due("37: full", x.fullShare(), 1.0f);
        TestKit.due("38: signs", x.account(1), 64);
        TestKit.due("38: steps", x.account(2), 256);
        TestKit.due("38: clashes", x.account(3), 384);
        TestKit.due("38: quarrels", x.account(4), 6);
        TestKit.due("6: taken back", x.takeBack(3, 7), 4);
        TestKit.due("6: taken back", x.takeBack(0, 0), 4);
        TestKit.due("15: without those taken back", x.steps(7), 28);
        TestKit.due("17: without those taken back", x.stepsOf(0), 60);
        TestKit.due("28: lacking", x.ranked(2, 1), 7);
        TestKit.due("28: steps", x.ranked(0, 7), 7);
        TestKit.due("37: not full", x.fullShare(), 30.0f / 32.0f);
    }

    private static void askFullBar(SisterSteps x, int bar) {
        TestKit.due("11: full", x.floorAt(3, bar, 7), 4);
        TestKit.due("12: full", x.sounding(bar, 7), 15);
        TestKit.due("14: full", x.lacking(3, bar), 0);
        TestKit.due("15: full", x.steps(bar), 32);
        TestKit.due("16: full", x.stepsAgain(bar), 32);
        TestKit.due("18: full", x.key(bar), 63);
        TestKit.due("19: full", x.clashes(bar), 48);
        TestKit.due("20: full", x.clashesAgain(bar), 48);
        TestKit.due("21: full", x.beatsOn(3, bar, 4), 255);
        TestKit.due("22: full", x.fullest(bar, 7), 4);
        TestKit.due("23: full", x.played(bar), bar);
        TestKit.due("25: full", x.areAlike(3, bar, 7), true);
        TestKit.due("26: full", x.wouldClash(3, bar, -4), 24);
        TestKit.due("27: full", x.bestShift(3, bar), -1);
        for (int measure = 0; measure < 4; measure++) {
            TestKit.due("28: full", x.ranked(measure, bar), bar);
        }
        TestKit.due("33: full", x.line(3, bar), 7);
        TestKit.due("34: full", x.staff(bar, 4), 8);
        TestKit.due("34: full", TestKit.lineOf(x), "++++++++");
    }
}
