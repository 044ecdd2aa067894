import java.util.Arrays;
import java.util.NoSuchElementException;

/** A notation of footsteps: sisters in a house, whose floors are the lines of a staff. */
public final class SisterSteps {
    private static final int SISTERS = 4;
    private static final int FLOORS = 5;
    private static final int BARS = 8;
    private static final int BEATS = 8;
    private static final int ROWS = BARS * SISTERS;
    private static final int LONGEST = 4;

    private static final int PAIRS = 6;
    private static final int[] LOWER_OF_PAIR = {0, 0, 0, 1, 1, 2};
    private static final int[] HIGHER_OF_PAIR = {1, 2, 3, 2, 3, 3};

    private static final int STEP = 0;
    private static final int REST = 1;
    private static final int STAIR_UP = 2;
    private static final int STAIR_DOWN = 3;

    private static final int OUT_OF_RANGE = 1;
    private static final int ALL_BARS_THERE = 2;
    private static final int NO_SUCH_BAR = 3;
    private static final int TOO_FEW_BEATS = 4;
    private static final int LEAVES_HOUSE = 5;
    private static final int NO_SIGN = 6;
    private static final int ONE_SISTER = 7;
    private static final int QUARREL_ALREADY = 8;
    private static final int NO_QUARREL = 9;
    private static final int ENDS_TOO_EARLY = 10;
    private static final int CODA_TOO_EARLY = 11;
    private static final int NO_CODA = 12;

    private static final int TEXT_LENGTH = 60;
    private static final int UNDOABLE = 8;
    private static final int HIGHEST_SHIFT = FLOORS - 1;

    private static final int NONE = -1;
    // No call that succeeds answers a number below 0, so this one cannot be an answer.
    private static final int REFUSED = -2;
    // Later than the latest bar that an end may name.
    private static final int NO_END = BARS + 1;

    private final House house;
    private final House snapshot;
    private final History history;
    private final Text buffer;
    private final Text written;
    private final int[] measures;
    private boolean hasSnapshot;
    private int fault;
    private int refusedFor;
    private int refusedDetail;
    private int refusedCommand;

    public SisterSteps() {
        house = new House();
        snapshot = new House();
        history = new History();
        buffer = new Text();
        written = new Text();
        measures = new int[BARS];
        fault = NONE;
        refusedFor = NONE;
    }

    // ---- calls that change the house ----

    public int bar() throws UnsupportedOperationException {
        history.prepare(house);
        return settle(addBar());
    }

    public int step(int sister, int bar, int floor, int length) throws UnsupportedOperationException {
        history.prepare(house);
        return settle(addSign(STEP, sister, bar, floor, length));
    }

    public int rest(int sister, int bar, int length) throws UnsupportedOperationException {
        history.prepare(house);
        return settle(addSign(REST, sister, bar, NONE, length));
    }

    public int stair(int sister, int bar, int floor, int length, boolean isUp) throws UnsupportedOperationException {
        history.prepare(house);
        return settle(addSign(isUp ? STAIR_UP : STAIR_DOWN, sister, bar, floor, length));
    }

    public int takeBack(int sister, int bar) throws UnsupportedOperationException {
        history.prepare(house);
        return settle(takeSign(sister, bar));
    }

    public int quarrel(int one, int other, int bar) throws UnsupportedOperationException {
        history.prepare(house);
        return settle(beginQuarrel(one, other, bar));
    }

    public int end(int one, int other, int bar) throws UnsupportedOperationException {
        history.prepare(house);
        return settle(endQuarrel(one, other, bar));
    }

    public int coda(int bar, int to) throws UnsupportedOperationException {
        history.prepare(house);
        return settle(tellCoda(bar, to));
    }

    public int noCoda() throws UnsupportedOperationException {
        history.prepare(house);
        return settle(dropCoda());
    }

    /** Ends a call that changes the house: it can be undone now, or it is refused. */
    private int settle(int answer) {
        if (answer == REFUSED) {
            throw new UnsupportedOperationException("the call is refused, the reason is kept");
        }
        history.keepPrepared();
        return answer;
    }

    private int refuse(int reason, int detail) {
        refusedFor = reason;
        refusedDetail = detail;
        refusedCommand = 0;
        return REFUSED;
    }

    private int addBar() {
        if (house.bars >= BARS) {
            return refuse(ALL_BARS_THERE, house.bars);
        }
        house.bars++;
        return house.bars - 1;
    }

    private int addSign(int kind, int sister, int bar, int floor, int length) {
        if (!isSister(sister) || !isFloorFor(kind, floor) || !isLengthFor(kind, length)) {
            return refuse(OUT_OF_RANGE, 0);
        }
        if (isStair(kind) && !isFloor(Sign.farFloor(kind, floor))) {
            return refuse(LEAVES_HOUSE, floor);
        }
        if (!house.hasBar(bar)) {
            return refuse(NO_SUCH_BAR, house.bars);
        }
        int left = house.beatsLeft(sister, bar);
        if (length > left) {
            return refuse(TOO_FEW_BEATS, left);
        }
        house.putSign(sister, bar, Sign.of(kind, length, floor));
        return left - length;
    }

    private int takeSign(int sister, int bar) {
        if (!isSister(sister)) {
            return refuse(OUT_OF_RANGE, 0);
        }
        if (!house.hasBar(bar)) {
            return refuse(NO_SUCH_BAR, house.bars);
        }
        if (house.signsOf(sister, bar) == 0) {
            return refuse(NO_SIGN, bar);
        }
        return house.dropLastSign(sister, bar);
    }

    private int beginQuarrel(int one, int other, int bar) {
        if (!isSister(one) || !isSister(other)) {
            return refuse(OUT_OF_RANGE, 0);
        }
        if (one == other) {
            return refuse(ONE_SISTER, one);
        }
        if (!house.hasBar(bar)) {
            return refuse(NO_SUCH_BAR, house.bars);
        }
        int pair = pairOf(one, other);
        if (house.quarrelFrom[pair] != NONE) {
            return refuse(QUARREL_ALREADY, house.quarrelFrom[pair]);
        }
        house.quarrelFrom[pair] = bar;
        house.quarrelUntil[pair] = NO_END;
        return house.pairsIn(bar);
    }

    private int endQuarrel(int one, int other, int bar) {
        if (!isSister(one) || !isSister(other) || bar < 0 || bar > BARS) {
            return refuse(OUT_OF_RANGE, 0);
        }
        if (one == other) {
            return refuse(ONE_SISTER, one);
        }
        int pair = pairOf(one, other);
        int from = house.quarrelFrom[pair];
        if (from == NONE) {
            return refuse(NO_QUARREL, 0);
        }
        if (bar <= from) {
            return refuse(ENDS_TOO_EARLY, from);
        }
        house.quarrelUntil[pair] = bar;
        return Math.min(bar, house.bars) - from;
    }

    private int tellCoda(int bar, int to) {
        if (!house.hasBar(bar) || !house.hasBar(to)) {
            return refuse(NO_SUCH_BAR, house.bars);
        }
        if (to <= bar + 1) {
            return refuse(CODA_TOO_EARLY, bar + 1);
        }
        house.codaBehind = bar;
        house.codaAt = to;
        return house.playedBars();
    }

    private int dropCoda() {
        if (house.codaAt == NONE) {
            return refuse(NO_CODA, 0);
        }
        int was = house.codaAt;
        house.codaBehind = NONE;
        house.codaAt = NONE;
        return was;
    }

    // ---- what is asked of the house ----

    public int floorAt(int sister, int bar, int beat) throws IndexOutOfBoundsException, IllegalArgumentException {
        requireSister(sister);
        requireBar(bar);
        requireBeat(beat);
        return house.floorIn(sister, bar, beat);
    }

    public int sounding(int bar, int beat) throws IndexOutOfBoundsException, IllegalArgumentException {
        requireBar(bar);
        requireBeat(beat);
        int sisters = 0;
        for (int sister = 0; sister < SISTERS; sister++) {
            if (house.floorIn(sister, bar, beat) != NONE) {
                sisters |= 1 << sister;
            }
        }
        return sisters;
    }

    public int signOf(int sister, int bar, int place, int what)
            throws IndexOutOfBoundsException, NoSuchElementException, IllegalArgumentException {
        requireSister(sister);
        requireBar(bar);
        if (place < 0 || place >= house.signsOf(sister, bar)) {
            throw new NoSuchElementException("there is no such place");
        }
        int sign = house.signAt(sister, bar, place);
        switch (what) {
            case 0:
                return Sign.kind(sign);
            case 1:
                return Sign.length(sign);
            case 2:
                return house.beginOf(sister, bar, place);
            case 3:
                return Sign.floor(sign);
            default:
                throw new IllegalArgumentException("a sign has the numbers 0 to 3");
        }
    }

    public int lacking(int sister, int bar) throws IndexOutOfBoundsException {
        requireSister(sister);
        requireBar(bar);
        return house.beatsLeft(sister, bar);
    }

    public int steps(int bar) throws IndexOutOfBoundsException {
        requireBar(bar);
        return house.stepsBySigns(bar);
    }

    public int stepsAgain(int bar) throws IndexOutOfBoundsException {
        requireBar(bar);
        return house.stepsByBeats(bar);
    }

    public int stepsOf(int sister) throws IndexOutOfBoundsException {
        requireSister(sister);
        int sum = 0;
        for (int bar = 0; bar < house.bars; bar++) {
            sum += house.stepsInRow(sister, bar);
        }
        return sum;
    }

    public int key(int bar) throws IndexOutOfBoundsException {
        requireBar(bar);
        return house.pairsIn(bar);
    }

    public int clashes(int bar) throws IndexOutOfBoundsException {
        requireBar(bar);
        return house.clashesByBeats(bar);
    }

    public int clashesAgain(int bar) throws IndexOutOfBoundsException {
        requireBar(bar);
        return house.clashesByPairs(bar);
    }

    public int beatsOn(int sister, int bar, int floor) throws IndexOutOfBoundsException, IllegalArgumentException {
        requireSister(sister);
        requireBar(bar);
        requireFloor(floor);
        return house.beatSet(sister, bar, floor);
    }

    public int fullest(int bar, int beat)
            throws IndexOutOfBoundsException, IllegalArgumentException, NoSuchElementException {
        requireBar(bar);
        requireBeat(beat);
        int fullestFloor = NONE;
        int most = 0;
        for (int floor = 0; floor < FLOORS; floor++) {
            int sisters = house.sistersOn(bar, beat, floor);
            if (sisters > most) {
                most = sisters;
                fullestFloor = floor;
            }
        }
        if (fullestFloor == NONE) {
            throw new NoSuchElementException("no sister sounds in the beat");
        }
        return fullestFloor;
    }

    public int played(int place) throws NoSuchElementException {
        if (place < 0 || place >= house.playedBars()) {
            throw new NoSuchElementException("there is no such place");
        }
        return house.playedAt(place);
    }

    public int playedSteps() {
        int sum = 0;
        for (int place = 0; place < house.playedBars(); place++) {
            sum += house.stepsBySigns(house.playedAt(place));
        }
        return sum;
    }

    public boolean areAlike(int sister, int one, int other) throws IndexOutOfBoundsException {
        requireSister(sister);
        requireBar(one);
        requireBar(other);
        for (int beat = 0; beat < BEATS; beat++) {
            if (house.floorIn(sister, one, beat) != house.floorIn(sister, other, beat)) {
                return false;
            }
        }
        return true;
    }

    public int wouldClash(int sister, int bar, int by)
            throws IndexOutOfBoundsException, IllegalArgumentException, NoSuchElementException {
        requireSister(sister);
        requireBar(bar);
        if (by < -HIGHEST_SHIFT || by > HIGHEST_SHIFT) {
            throw new IllegalArgumentException("the number is out of range");
        }
        if (!house.staysInside(sister, bar, by)) {
            throw new NoSuchElementException("a sign would leave the house");
        }
        return house.clashesIfShifted(bar, sister, by);
    }

    public int bestShift(int sister, int bar) throws IndexOutOfBoundsException {
        requireSister(sister);
        requireBar(bar);
        int best = 0;
        for (int distance = 1; distance <= HIGHEST_SHIFT; distance++) {
            best = betterShift(sister, bar, best, -distance);
            best = betterShift(sister, bar, best, distance);
        }
        return best;
    }

    private int betterShift(int sister, int bar, int best, int by) {
        if (!house.staysInside(sister, bar, by)) {
            return best;
        }
        int clashesNow = house.clashesIfShifted(bar, sister, best);
        return house.clashesIfShifted(bar, sister, by) < clashesNow ? by : best;
    }

    public int ranked(int measure, int place) throws IllegalArgumentException, NoSuchElementException {
        if (measure < 0 || measure > 3) {
            throw new IllegalArgumentException("there is no such measure");
        }
        if (place < 0 || place >= house.bars) {
            throw new NoSuchElementException("there is no such place");
        }
        for (int bar = 0; bar < house.bars; bar++) {
            measures[bar] = measureOf(measure, bar);
        }
        int found = NONE;
        for (int bar = 0; bar < house.bars; bar++) {
            if (barsAheadOf(bar) == place) {
                found = bar;
            }
        }
        return found;
    }

    private int measureOf(int measure, int bar) {
        switch (measure) {
            case 0:
                return house.stepsBySigns(bar);
            case 1:
                return house.clashesByBeats(bar);
            case 2:
                return house.beatsLackedBy(bar);
            default:
                return Integer.bitCount(house.pairsIn(bar));
        }
    }

    private int barsAheadOf(int bar) {
        int ahead = 0;
        for (int rival = 0; rival < house.bars; rival++) {
            boolean isLowerTie = measures[rival] == measures[bar] && rival < bar;
            if (measures[rival] > measures[bar] || isLowerTie) {
                ahead++;
            }
        }
        return ahead;
    }

    // ---- texts and reasons ----

    public int append(char character) throws IllegalStateException {
        if (buffer.length >= TEXT_LENGTH) {
            throw new IllegalStateException("the buffer is full");
        }
        buffer.put(character);
        return buffer.length;
    }

    public int commands() throws IllegalArgumentException, UnsupportedOperationException {
        fault = Grammar.faultOf(buffer);
        if (fault != NONE) {
            buffer.empty();
            throw new IllegalArgumentException("the text has a fault");
        }
        history.prepare(house);
        int count = carryOutAll();
        buffer.empty();
        if (count == REFUSED) {
            house.copyFrom(history.prepared());
        }
        return settle(count);
    }

    /** Carries the commands of a text without fault out; answers how many, or REFUSED. */
    private int carryOutAll() {
        int count = 0;
        int at = 0;
        while (at < buffer.length) {
            if (carryOut(at) == REFUSED) {
                refusedCommand = count;
                return REFUSED;
            }
            count++;
            at += Grammar.shapeOf(buffer.at(at)).length() + 1;
        }
        return count;
    }

    private int carryOut(int at) {
        int first = digitAt(at + 1);
        int second = digitAt(at + 2);
        switch (buffer.at(at)) {
            case 'b':
                return addBar();
            case 's':
                return addSign(STEP, first, second, digitAt(at + 4), digitAt(at + 6));
            case 'r':
                return addSign(REST, first, second, NONE, digitAt(at + 4));
            case 'u':
                return addSign(STAIR_UP, first, second, digitAt(at + 4), digitAt(at + 6));
            case 'd':
                return addSign(STAIR_DOWN, first, second, digitAt(at + 4), digitAt(at + 6));
            case 'x':
                return takeSign(first, second);
            case 'q':
                return beginQuarrel(first, second, digitAt(at + 3));
            case 'e':
                return endQuarrel(first, second, digitAt(at + 3));
            case 'c':
                return tellCoda(first, digitAt(at + 3));
            default:
                return dropCoda();
        }
    }

    private int digitAt(int index) {
        return buffer.at(index) - '0';
    }

    public int faultPosition() {
        return fault;
    }

    public int reason(int what) throws IllegalArgumentException, NoSuchElementException {
        if (what < 0 || what > 2) {
            throw new IllegalArgumentException("a reason has the numbers 0 to 2");
        }
        if (refusedFor == NONE) {
            throw new NoSuchElementException("nothing was refused");
        }
        if (what == 0) {
            return refusedFor;
        }
        return what == 1 ? refusedDetail : refusedCommand;
    }

    // ---- lines ----

    public int line(int sister, int bar) throws IndexOutOfBoundsException {
        requireSister(sister);
        requireBar(bar);
        written.empty();
        for (int place = 0; place < house.signsOf(sister, bar); place++) {
            if (place > 0) {
                written.put(' ');
            }
            writeSign(house.signAt(sister, bar, place));
        }
        return written.length;
    }

    private void writeSign(int sign) {
        int kind = Sign.kind(sign);
        if (kind == REST) {
            written.put('.');
        } else {
            written.put(digit(Sign.floor(sign)));
        }
        if (isStair(kind)) {
            written.put(kind == STAIR_UP ? '^' : 'v');
        }
        written.put('*');
        written.put(digit(Sign.length(sign)));
    }

    public int staff(int bar, int floor) throws IndexOutOfBoundsException, IllegalArgumentException {
        requireBar(bar);
        requireFloor(floor);
        written.empty();
        for (int beat = 0; beat < BEATS; beat++) {
            written.put(staffCharacter(bar, beat, floor));
        }
        return written.length;
    }

    private char staffCharacter(int bar, int beat, int floor) {
        char found = '-';
        for (int sister = 0; sister < SISTERS; sister++) {
            if (house.floorIn(sister, bar, beat) == floor) {
                found = found == '-' ? digit(sister) : '+';
            }
        }
        return found;
    }

    public char character(int index) throws IndexOutOfBoundsException {
        if (index < 0 || index >= written.length) {
            throw new IndexOutOfBoundsException("there is no such index");
        }
        return written.at(index);
    }

    private static char digit(int number) {
        return (char) ('0' + number);
    }

    // ---- quotients and accounts ----

    public double meanSteps() throws ArithmeticException {
        if (house.bars == 0) {
            throw new ArithmeticException("there are no bars");
        }
        return (double) house.allSteps() / (double) house.bars;
    }

    public float fullShare() throws ArithmeticException {
        if (house.bars == 0) {
            throw new ArithmeticException("there are no bars");
        }
        int full = 0;
        for (int bar = 0; bar < house.bars; bar++) {
            for (int sister = 0; sister < SISTERS; sister++) {
                if (house.beatsLeft(sister, bar) == 0) {
                    full++;
                }
            }
        }
        return (float) full / (float) (house.bars * SISTERS);
    }

    public int account(int what) throws IllegalArgumentException {
        switch (what) {
            case 0:
                return house.bars;
            case 1:
                return house.allSigns();
            case 2:
                return house.allSteps();
            case 3:
                return house.allClashes();
            case 4:
                return house.allQuarrels();
            case 5:
                return house.playedBars();
            case 6:
                return house.codaBehind;
            case 7:
                return house.codaAt;
            case 8:
                return house.takenAway;
            case 9:
                return history.kept;
            case 10:
                return buffer.length;
            default:
                throw new IllegalArgumentException("there are the accounts 0 to 10");
        }
    }

    // ---- undo and the snapshot ----

    public int undo() throws IllegalStateException {
        if (history.kept == 0) {
            throw new IllegalStateException("nothing can be undone");
        }
        house.copyFrom(history.takeLatest());
        return history.kept;
    }

    public int save() {
        snapshot.copyFrom(house);
        hasSnapshot = true;
        return house.bars;
    }

    public int restore() throws IllegalStateException {
        if (!hasSnapshot) {
            throw new IllegalStateException("there is no snapshot");
        }
        house.copyFrom(snapshot);
        history.forget();
        return house.bars;
    }

    // ---- ranges ----

    private void requireSister(int sister) {
        if (!isSister(sister)) {
            throw new IndexOutOfBoundsException("there is no such sister");
        }
    }

    private void requireBar(int bar) {
        if (!house.hasBar(bar)) {
            throw new IndexOutOfBoundsException("there is no such bar");
        }
    }

    private static void requireBeat(int beat) {
        if (beat < 0 || beat >= BEATS) {
            throw new IllegalArgumentException("there is no such beat");
        }
    }

    private static void requireFloor(int floor) {
        if (!isFloor(floor)) {
            throw new IllegalArgumentException("there is no such floor");
        }
    }

    private static boolean isSister(int sister) {
        return sister >= 0 && sister < SISTERS;
    }

    private static boolean isFloor(int floor) {
        return floor >= 0 && floor < FLOORS;
    }

    private static boolean isStair(int kind) {
        return kind == STAIR_UP || kind == STAIR_DOWN;
    }

    private static boolean isFloorFor(int kind, int floor) {
        return kind == REST || isFloor(floor);
    }

    private static boolean isLengthFor(int kind, int length) {
        if (isStair(kind)) {
            return length == 2 || length == 4;
        }
        return length >= 1 && length <= LONGEST;
    }

    /** The number of the pair of two different sisters. */
    private static int pairOf(int one, int other) {
        int lower = Math.min(one, other);
        int higher = Math.max(one, other);
        int found = 0;
        for (int pair = 0; pair < PAIRS; pair++) {
            if (LOWER_OF_PAIR[pair] == lower && HIGHER_OF_PAIR[pair] == higher) {
                found = pair;
            }
        }
        return found;
    }

    /** A sign as one number, so that a house is copied by copying rows of numbers. */
    private static final class Sign {
        private Sign() {
        }

        static int of(int kind, int length, int floor) {
            // A rest has the floor -1, of which no bit may spread over the others.
            return kind | length << 2 | (floor + 1) << 5;
        }

        static int kind(int sign) {
            return sign & 3;
        }

        static int length(int sign) {
            return sign >> 2 & 7;
        }

        static int floor(int sign) {
            return (sign >> 5) - 1;
        }

        /** The floor on which a sign of a kind ends if it begins on a floor. */
        static int farFloor(int kind, int floor) {
            if (kind == STAIR_UP) {
                return floor + 1;
            }
            return kind == STAIR_DOWN ? floor - 1 : floor;
        }

        /** The floor on which it sounds in one of its beats, counted from 0, or NONE. */
        static int floorIn(int sign, int beat) {
            boolean isFirstHalf = beat < length(sign) / 2;
            return isFirstHalf ? floor(sign) : farFloor(kind(sign), floor(sign));
        }
    }

    /** All that can be undone. Its callers look at sisters, bars, beats and floors before they ask it. */
    private static final class House {
        int bars;
        int codaBehind;
        int codaAt;
        int takenAway;
        final int[] quarrelFrom;
        final int[] quarrelUntil;
        private final int[] signs;
        private final int[] signCounts;
        // Both follow from the signs; kept so that a row is not walked again for each beat.
        private final int[] beatsFilled;
        private final int[] floors;

        House() {
            codaBehind = NONE;
            codaAt = NONE;
            quarrelFrom = new int[PAIRS];
            quarrelUntil = new int[PAIRS];
            signs = new int[ROWS * BEATS];
            signCounts = new int[ROWS];
            beatsFilled = new int[ROWS];
            floors = new int[ROWS * BEATS];
            Arrays.fill(quarrelFrom, NONE);
            Arrays.fill(floors, NONE);
        }

        void copyFrom(House other) {
            bars = other.bars;
            codaBehind = other.codaBehind;
            codaAt = other.codaAt;
            takenAway = other.takenAway;
            System.arraycopy(other.quarrelFrom, 0, quarrelFrom, 0, PAIRS);
            System.arraycopy(other.quarrelUntil, 0, quarrelUntil, 0, PAIRS);
            System.arraycopy(other.signs, 0, signs, 0, ROWS * BEATS);
            System.arraycopy(other.signCounts, 0, signCounts, 0, ROWS);
            System.arraycopy(other.beatsFilled, 0, beatsFilled, 0, ROWS);
            System.arraycopy(other.floors, 0, floors, 0, ROWS * BEATS);
        }

        boolean hasBar(int bar) {
            return bar >= 0 && bar < bars;
        }

        private static int rowOf(int sister, int bar) {
            return bar * SISTERS + sister;
        }

        int signsOf(int sister, int bar) {
            return signCounts[rowOf(sister, bar)];
        }

        // A row has at most as many signs as beats, so that places and beats have the same width.
        int signAt(int sister, int bar, int place) {
            return signs[(bar * SISTERS + sister) * BEATS + place];
        }

        int floorIn(int sister, int bar, int beat) {
            return floors[(bar * SISTERS + sister) * BEATS + beat];
        }

        /** The beat in which the sign at a place begins. */
        int beginOf(int sister, int bar, int place) {
            int begin = 0;
            for (int earlier = 0; earlier < place; earlier++) {
                begin += Sign.length(signAt(sister, bar, earlier));
            }
            return begin;
        }

        int beatsLeft(int sister, int bar) {
            return BEATS - beatsFilled[rowOf(sister, bar)];
        }

        /** Puts a sign that lasts no longer than the beats that are left. */
        void putSign(int sister, int bar, int sign) {
            int row = rowOf(sister, bar);
            int begin = row * BEATS + beatsFilled[row];
            for (int beat = 0; beat < Sign.length(sign); beat++) {
                floors[begin + beat] = Sign.floorIn(sign, beat);
            }
            signs[row * BEATS + signCounts[row]] = sign;
            signCounts[row]++;
            beatsFilled[row] += Sign.length(sign);
        }

        /** Drops the last sign of a row that has one; answers its length. */
        int dropLastSign(int sister, int bar) {
            int row = rowOf(sister, bar);
            signCounts[row]--;
            int length = Sign.length(signs[row * BEATS + signCounts[row]]);
            beatsFilled[row] -= length;
            int begin = row * BEATS + beatsFilled[row];
            for (int beat = 0; beat < length; beat++) {
                floors[begin + beat] = NONE;
            }
            takenAway++;
            return length;
        }

        int stepsInRow(int sister, int bar) {
            int sum = 0;
            for (int place = 0; place < signsOf(sister, bar); place++) {
                int sign = signAt(sister, bar, place);
                if (Sign.kind(sign) != REST) {
                    sum += Sign.length(sign);
                }
            }
            return sum;
        }

        int stepsBySigns(int bar) {
            int sum = 0;
            for (int sister = 0; sister < SISTERS; sister++) {
                sum += stepsInRow(sister, bar);
            }
            return sum;
        }

        int stepsByBeats(int bar) {
            int sum = 0;
            for (int beat = 0; beat < BEATS; beat++) {
                for (int sister = 0; sister < SISTERS; sister++) {
                    if (floorIn(sister, bar, beat) != NONE) {
                        sum++;
                    }
                }
            }
            return sum;
        }

        int beatsLackedBy(int bar) {
            int sum = 0;
            for (int sister = 0; sister < SISTERS; sister++) {
                sum += beatsLeft(sister, bar);
            }
            return sum;
        }

        int beatSet(int sister, int bar, int floor) {
            int beats = 0;
            for (int beat = 0; beat < BEATS; beat++) {
                if (floorIn(sister, bar, beat) == floor) {
                    beats |= 1 << beat;
                }
            }
            return beats;
        }

        int sistersOn(int bar, int beat, int floor) {
            int count = 0;
            for (int sister = 0; sister < SISTERS; sister++) {
                if (floorIn(sister, bar, beat) == floor) {
                    count++;
                }
            }
            return count;
        }

        private boolean doQuarrel(int pair, int bar) {
            int from = quarrelFrom[pair];
            return from != NONE && bar >= from && bar < quarrelUntil[pair];
        }

        int pairsIn(int bar) {
            int pairs = 0;
            for (int pair = 0; pair < PAIRS; pair++) {
                if (doQuarrel(pair, bar)) {
                    pairs |= 1 << pair;
                }
            }
            return pairs;
        }

        int clashesByBeats(int bar) {
            return clashesIfShifted(bar, 0, 0);
        }

        /** The clashes if a sister were higher by some floors, none of which leads out of the house. */
        int clashesIfShifted(int bar, int sister, int by) {
            int clashing = 0;
            for (int beat = 0; beat < BEATS; beat++) {
                for (int pair = 0; pair < PAIRS; pair++) {
                    if (doQuarrel(pair, bar) && doMeet(pair, bar, beat, sister, by)) {
                        clashing++;
                    }
                }
            }
            return clashing;
        }

        private boolean doMeet(int pair, int bar, int beat, int shifted, int by) {
            int one = shiftedFloor(LOWER_OF_PAIR[pair], bar, beat, shifted, by);
            int other = shiftedFloor(HIGHER_OF_PAIR[pair], bar, beat, shifted, by);
            return one != NONE && one == other;
        }

        private int shiftedFloor(int who, int bar, int beat, int shifted, int by) {
            int floor = floorIn(who, bar, beat);
            return floor != NONE && who == shifted ? floor + by : floor;
        }

        int clashesByPairs(int bar) {
            int clashing = 0;
            for (int pair = 0; pair < PAIRS; pair++) {
                if (doQuarrel(pair, bar)) {
                    clashing += meetings(LOWER_OF_PAIR[pair], HIGHER_OF_PAIR[pair], bar);
                }
            }
            return clashing;
        }

        private int meetings(int one, int other, int bar) {
            int sum = 0;
            for (int floor = 0; floor < FLOORS; floor++) {
                sum += Integer.bitCount(beatSet(one, bar, floor) & beatSet(other, bar, floor));
            }
            return sum;
        }

        // Each floor of a sign sounds in a beat of it, so that the beats tell all floors.
        boolean staysInside(int sister, int bar, int by) {
            for (int beat = 0; beat < BEATS; beat++) {
                int floor = floorIn(sister, bar, beat);
                if (floor != NONE && !isFloor(floor + by)) {
                    return false;
                }
            }
            return true;
        }

        private int skippedBars() {
            return codaAt == NONE ? 0 : codaAt - codaBehind - 1;
        }

        int playedBars() {
            return bars - skippedBars();
        }

        int playedAt(int place) {
            boolean isAheadOfJump = codaAt == NONE || place <= codaBehind;
            return isAheadOfJump ? place : place + skippedBars();
        }

        int allSigns() {
            int sum = 0;
            for (int row = 0; row < ROWS; row++) {
                sum += signCounts[row];
            }
            return sum;
        }

        int allSteps() {
            int sum = 0;
            for (int bar = 0; bar < bars; bar++) {
                sum += stepsBySigns(bar);
            }
            return sum;
        }

        int allClashes() {
            int sum = 0;
            for (int bar = 0; bar < bars; bar++) {
                sum += clashesByBeats(bar);
            }
            return sum;
        }

        int allQuarrels() {
            int sum = 0;
            for (int pair = 0; pair < PAIRS; pair++) {
                if (quarrelFrom[pair] != NONE) {
                    sum++;
                }
            }
            return sum;
        }
    }

    /** What there was before each of the latest changes, in a ring of houses. */
    private static final class History {
        // One more than can be undone, so that a refused call overwrites none of them.
        private static final int SLOTS = UNDOABLE + 1;

        int kept;
        private final House[] slots;
        private int next;

        History() {
            slots = new House[SLOTS];
            for (int slot = 0; slot < SLOTS; slot++) {
                slots[slot] = new House();
            }
        }

        void prepare(House house) {
            slots[next].copyFrom(house);
        }

        House prepared() {
            return slots[next];
        }

        void keepPrepared() {
            next = (next + 1) % SLOTS;
            kept = Math.min(kept + 1, UNDOABLE);
        }

        /** Takes the latest one, which has to be there. */
        House takeLatest() {
            next = (next + SLOTS - 1) % SLOTS;
            kept--;
            return slots[next];
        }

        void forget() {
            kept = 0;
        }
    }

    /** Characters one behind the other, as in the text buffer and in the line. */
    private static final class Text {
        int length;
        private final char[] characters;

        Text() {
            characters = new char[TEXT_LENGTH];
        }

        void empty() {
            length = 0;
        }

        void put(char character) {
            if (length < TEXT_LENGTH) {
                characters[length] = character;
                length++;
            }
        }

        /** The character at an index; behind the end, one that no command holds. */
        char at(int index) {
            return index >= 0 && index < length ? characters[index] : (char) 0;
        }
    }

    /** How the commands of a text are written. */
    private static final class Grammar {
        // In a shape, "#" stands for any digit, and "?" for the letter of any command.
        private static final String ANY_COMMAND = "?";
        private static final String NO_COMMAND = "";

        private Grammar() {
        }

        static String shapeOf(char letter) {
            switch (letter) {
                case 'b':
                    return "b";
                case 's':
                    return "s##@#*#";
                case 'r':
                    return "r##*#";
                case 'u':
                    return "u##@#*#";
                case 'd':
                    return "d##@#*#";
                case 'x':
                    return "x##";
                case 'q':
                    return "q###";
                case 'e':
                    return "e###";
                case 'c':
                    return "c#>#";
                case 'n':
                    return "n";
                default:
                    return NO_COMMAND;
            }
        }

        /** The fault position of a text, or NONE if it has no fault. */
        static int faultOf(Text text) {
            String shape = ANY_COMMAND;
            int place = 0;
            for (int index = 0; index < text.length; index++) {
                char character = text.at(index);
                boolean isWhole = place >= shape.length();
                if (isWhole && character == ';') {
                    shape = ANY_COMMAND;
                    place = 0;
                } else if (isWhole) {
                    return index;
                } else {
                    if (shape.equals(ANY_COMMAND)) {
                        shape = shapeOf(character);
                    }
                    if (place >= shape.length() || !fits(shape.charAt(place), character)) {
                        return index;
                    }
                    place++;
                }
            }
            return place >= shape.length() ? NONE : text.length;
        }

        private static boolean fits(char wanted, char character) {
            if (wanted == '#') {
                return character >= '0' && character <= '9';
            }
            return character == wanted;
        }
    }
}
