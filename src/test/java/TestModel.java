import java.util.ArrayDeque;
import java.util.ArrayList;
import java.util.Comparator;
import java.util.Deque;
import java.util.List;
import java.util.TreeMap;
import java.util.regex.Matcher;
import java.util.regex.Pattern;

/** The document told a second time, as plainly as can be, with none of the program's ways of keeping a house. */
final class TestModel {
    private static final Pattern TEXT;
    private static final String[] PAIRS = {"01", "02", "03", "12", "13", "23"};
    private static final String REFUSED = "throws.UnsupportedOperationException";
    private static final String INDEX = "throws.IndexOutOfBoundsException";
    private static final String ARGUMENT = "throws.IllegalArgumentException";
    private static final String ELEMENT = "throws.NoSuchElementException";
    private static final String STATE = "throws.IllegalStateException";

    static {
        String command = "(b|s[0-9]{2}@[0-9]\\*[0-9]|r[0-9]{2}\\*[0-9]|[ud][0-9]{2}@[0-9]\\*[0-9]|x[0-9]{2}"
                + "|[qe][0-9]{3}|c[0-9]>[0-9]|n)";
        TEXT = Pattern.compile(command + "(;" + command + ")*");
    }

    private record Sign(char kind, int floor, int length) {
        int floorIn(int beat) {
            if (kind == '.' || kind == '*' || beat < length / 2) {
                return floor;
            }
            return kind == '^' ? floor + 1 : floor - 1;
        }
    }

    /** All that can be undone. */
    private static final class State {
        final List<List<List<Sign>>> bars = new ArrayList<>();
        final TreeMap<String, int[]> quarrels = new TreeMap<>();
        int[] coda = null;
        int taken = 0;

        State copy() {
            State copy = new State();
            for (List<List<Sign>> bar : bars) {
                List<List<Sign>> rows = new ArrayList<>();
                bar.forEach(row -> rows.add(new ArrayList<>(row)));
                copy.bars.add(rows);
            }
            quarrels.forEach((pair, ends) -> copy.quarrels.put(pair, ends.clone()));
            copy.coda = coda == null ? null : coda.clone();
            copy.taken = taken;
            return copy;
        }

        List<Integer> row(int sister, int bar) {
            List<Integer> floors = new ArrayList<>();
            for (Sign sign : bars.get(bar).get(sister)) {
                for (int beat = 0; beat < sign.length; beat++) {
                    floors.add(sign.floorIn(beat));
                }
            }
            return floors;
        }

        int floor(int sister, int bar, int beat) {
            List<Integer> row = row(sister, bar);
            return beat < row.size() ? row.get(beat) : -1;
        }

        int key(int bar) {
            int key = 0;
            for (int pair = 0; pair < 6; pair++) {
                int[] ends = quarrels.get(PAIRS[pair]);
                if (ends != null && ends[0] <= bar && bar < ends[1]) {
                    key += 1 << pair;
                }
            }
            return key;
        }

        int steps(int bar) {
            int steps = 0;
            for (int sister = 0; sister < 4; sister++) {
                steps += (int) row(sister, bar).stream().filter(floor -> floor >= 0).count();
            }
            return steps;
        }

        /** The clashes if a sister were higher, or -1 if she would leave the house. */
        int clashes(int bar, int shifted, int by) {
            int clashes = 0;
            for (int beat = 0; beat < 8; beat++) {
                int[] floors = new int[4];
                for (int sister = 0; sister < 4; sister++) {
                    floors[sister] = floor(sister, bar, beat);
                }
                if (floors[shifted] >= 0) {
                    floors[shifted] += by;
                    if (floors[shifted] < 0 || floors[shifted] > 4) {
                        return -1;
                    }
                }
                for (int pair = 0; pair < 6; pair++) {
                    int one = floors[PAIRS[pair].charAt(0) - '0'];
                    int other = floors[PAIRS[pair].charAt(1) - '0'];
                    clashes += one == other && one >= 0 && (key(bar) >> pair & 1) == 1 ? 1 : 0;
                }
            }
            return clashes;
        }

        List<Integer> played() {
            List<Integer> played = new ArrayList<>();
            for (int bar = 0; bar < bars.size(); bar++) {
                if (coda == null || bar <= coda[0] || bar >= coda[1]) {
                    played.add(bar);
                }
            }
            return played;
        }

        int lacking(int bar) {
            int lacking = 0;
            for (int sister = 0; sister < 4; sister++) {
                lacking += 8 - row(sister, bar).size();
            }
            return lacking;
        }
    }

    private State now = new State();
    private State snapshot = null;
    private final Deque<State> befores = new ArrayDeque<>();
    private String buffer = "";
    private String written = "";
    private int fault = -1;
    private int[] reason = null;
    private int command = 0;

    private String refuse(int number, int detail) {
        reason = new int[] {number, detail, command};
        return REFUSED;
    }

    private static boolean out(int number, int lowest, int highest) {
        return number < lowest || number > highest;
    }

    private boolean noBar(int bar) {
        return out(bar, 0, now.bars.size() - 1);
    }

    /** The answer to a changing call: its number or what it throws. */
    private String change(char kind, int a, int b, int c, int d) {
        return switch (kind) {
            case 'b' -> bar();
            case 's' -> sign('*', a, b, c, d);
            case 'r' -> sign('.', a, b, -1, d);
            case 'u' -> sign('^', a, b, c, d);
            case 'd' -> sign('v', a, b, c, d);
            case 'x' -> take(a, b);
            case 'q' -> quarrel(a, b, c);
            case 'e' -> end(a, b, c);
            case 'c' -> coda(a, b);
            default -> noCoda();
        };
    }

    private String bar() {
        if (now.bars.size() == 8) {
            return refuse(2, 8);
        }
        List<List<Sign>> rows = new ArrayList<>();
        for (int sister = 0; sister < 4; sister++) {
            rows.add(new ArrayList<>());
        }
        now.bars.add(rows);
        return "" + (now.bars.size() - 1);
    }

    private String sign(char kind, int sister, int bar, int floor, int length) {
        boolean isStair = kind == '^' || kind == 'v';
        boolean isLengthWrong = out(length, 1, 4) || isStair && length % 2 == 1;
        if (out(sister, 0, 3) || kind != '.' && out(floor, 0, 4) || isLengthWrong) {
            return refuse(1, 0);
        }
        if (kind == '^' && floor == 4 || kind == 'v' && floor == 0) {
            return refuse(5, floor);
        }
        if (noBar(bar)) {
            return refuse(3, now.bars.size());
        }
        int left = 8 - now.row(sister, bar).size();
        if (left < length) {
            return refuse(4, left);
        }
        now.bars.get(bar).get(sister).add(new Sign(kind, floor, length));
        return "" + (left - length);
    }

    private String take(int sister, int bar) {
        if (out(sister, 0, 3)) {
            return refuse(1, 0);
        }
        if (noBar(bar)) {
            return refuse(3, now.bars.size());
        }
        List<Sign> row = now.bars.get(bar).get(sister);
        if (row.isEmpty()) {
            return refuse(6, bar);
        }
        now.taken++;
        return "" + row.remove(row.size() - 1).length;
    }

    private static String pair(int one, int other) {
        return one < other ? "" + one + other : "" + other + one;
    }

    private String quarrel(int one, int other, int bar) {
        if (out(one, 0, 3) || out(other, 0, 3)) {
            return refuse(1, 0);
        }
        if (one == other) {
            return refuse(7, one);
        }
        if (noBar(bar)) {
            return refuse(3, now.bars.size());
        }
        int[] ends = now.quarrels.get(pair(one, other));
        if (ends != null) {
            return refuse(8, ends[0]);
        }
        now.quarrels.put(pair(one, other), new int[] {bar, Integer.MAX_VALUE});
        return "" + now.key(bar);
    }

    private String end(int one, int other, int bar) {
        if (out(one, 0, 3) || out(other, 0, 3) || out(bar, 0, 8)) {
            return refuse(1, 0);
        }
        if (one == other) {
            return refuse(7, one);
        }
        int[] ends = now.quarrels.get(pair(one, other));
        if (ends == null) {
            return refuse(9, 0);
        }
        if (bar <= ends[0]) {
            return refuse(10, ends[0]);
        }
        ends[1] = bar;
        int count = 0;
        for (int there = 0; there < now.bars.size(); there++) {
            count += now.key(there) >> List.of(PAIRS).indexOf(pair(one, other)) & 1;
        }
        return "" + count;
    }

    private String coda(int bar, int to) {
        if (noBar(bar) || noBar(to)) {
            return refuse(3, now.bars.size());
        }
        if (to < bar + 2) {
            return refuse(11, bar + 1);
        }
        now.coda = new int[] {bar, to};
        return "" + now.played().size();
    }

    private String noCoda() {
        if (now.coda == null) {
            return refuse(12, 0);
        }
        int to = now.coda[1];
        now.coda = null;
        return "" + to;
    }

    String changed(char kind, int a, int b, int c, int d) {
        State before = now.copy();
        command = 0;
        String answer = change(kind, a, b, c, d);
        if (!answer.equals(REFUSED)) {
            keep(before);
        }
        return answer;
    }

    private void keep(State before) {
        befores.addLast(before);
        if (befores.size() > 8) {
            befores.removeFirst();
        }
    }

    String append(char character) {
        if (buffer.length() == 60) {
            return STATE;
        }
        buffer += character;
        return "" + buffer.length();
    }

    private static int faultOf(String text) {
        for (int length = 1; length <= text.length(); length++) {
            Matcher matcher = TEXT.matcher(text.substring(0, length));
            if (!matcher.matches() && !matcher.hitEnd()) {
                return length - 1;
            }
        }
        return TEXT.matcher(text).matches() ? -1 : text.length();
    }

    String commands() {
        String text = buffer;
        buffer = "";
        fault = faultOf(text);
        if (fault >= 0) {
            return ARGUMENT;
        }
        State before = now.copy();
        String[] commands = text.split(";");
        for (command = 0; command < commands.length; command++) {
            if (told(commands[command]).equals(REFUSED)) {
                now = before;
                return REFUSED;
            }
        }
        keep(before);
        return "" + commands.length;
    }

    private String told(String text) {
        String digits = text.replaceAll("[^0-9]", "") + "0000";
        char kind = text.charAt(0);
        int third = digits.charAt(2) - '0';
        int fourth = kind == 'r' ? third : digits.charAt(3) - '0';
        return change(kind, digits.charAt(0) - '0', digits.charAt(1) - '0', third, fourth);
    }

    String faultPosition() {
        return "" + fault;
    }

    String reason(int what) {
        if (out(what, 0, 2)) {
            return ARGUMENT;
        }
        return reason == null ? ELEMENT : "" + reason[what];
    }

    String undo() {
        if (befores.isEmpty()) {
            return STATE;
        }
        now = befores.removeLast();
        return "" + befores.size();
    }

    String save() {
        snapshot = now.copy();
        return "" + now.bars.size();
    }

    String restore() {
        if (snapshot == null) {
            return STATE;
        }
        now = snapshot.copy();
        befores.clear();
        return "" + now.bars.size();
    }

    private boolean none(int sister, int bar) {
        return out(sister, 0, 3) || noBar(bar);
    }

    String floorAt(int sister, int bar, int beat) {
        return none(sister, bar) ? INDEX : out(beat, 0, 7) ? ARGUMENT : "" + now.floor(sister, bar, beat);
    }

    String sounding(int bar, int beat) {
        if (noBar(bar) || out(beat, 0, 7)) {
            return noBar(bar) ? INDEX : ARGUMENT;
        }
        int set = 0;
        for (int sister = 3; sister >= 0; sister--) {
            set = set * 2 + (now.floor(sister, bar, beat) >= 0 ? 1 : 0);
        }
        return "" + set;
    }

    String signOf(int sister, int bar, int place, int what) {
        if (none(sister, bar)) {
            return INDEX;
        }
        List<Sign> row = now.bars.get(bar).get(sister);
        if (out(place, 0, row.size() - 1)) {
            return ELEMENT;
        }
        if (out(what, 0, 3)) {
            return ARGUMENT;
        }
        int begin = row.subList(0, place).stream().mapToInt(Sign::length).sum();
        Sign sign = row.get(place);
        return "" + new int[] {"*.^v".indexOf(sign.kind), sign.length, begin, sign.floor}[what];
    }

    String lacking(int sister, int bar) {
        return none(sister, bar) ? INDEX : "" + (8 - now.row(sister, bar).size());
    }

    String steps(int bar) {
        return noBar(bar) ? INDEX : "" + now.steps(bar);
    }

    String stepsOf(int sister) {
        if (out(sister, 0, 3)) {
            return INDEX;
        }
        int steps = 0;
        for (int bar = 0; bar < now.bars.size(); bar++) {
            steps += (int) now.row(sister, bar).stream().filter(floor -> floor >= 0).count();
        }
        return "" + steps;
    }

    String key(int bar) {
        return noBar(bar) ? INDEX : "" + now.key(bar);
    }

    String clashes(int bar) {
        return noBar(bar) ? INDEX : "" + now.clashes(bar, 0, 0);
    }

    String beatsOn(int sister, int bar, int floor) {
        if (none(sister, bar) || out(floor, 0, 4)) {
            return none(sister, bar) ? INDEX : ARGUMENT;
        }
        int set = 0;
        for (int beat = 7; beat >= 0; beat--) {
            set = set * 2 + (now.floor(sister, bar, beat) == floor ? 1 : 0);
        }
        return "" + set;
    }

    String fullest(int bar, int beat) {
        if (noBar(bar) || out(beat, 0, 7)) {
            return noBar(bar) ? INDEX : ARGUMENT;
        }
        int[] counts = new int[5];
        for (int sister = 0; sister < 4; sister++) {
            if (now.floor(sister, bar, beat) >= 0) {
                counts[now.floor(sister, bar, beat)]++;
            }
        }
        for (int count = 4; count > 0; count--) {
            for (int floor = 0; floor < 5; floor++) {
                if (counts[floor] == count) {
                    return "" + floor;
                }
            }
        }
        return ELEMENT;
    }

    String played(int place) {
        return out(place, 0, now.played().size() - 1) ? ELEMENT : "" + now.played().get(place);
    }

    String playedSteps() {
        return "" + now.played().stream().mapToInt(now::steps).sum();
    }

    String areAlike(int sister, int one, int other) {
        if (none(sister, one) || noBar(other)) {
            return INDEX;
        }
        boolean alike = true;
        for (int beat = 0; beat < 8; beat++) {
            alike &= now.floor(sister, one, beat) == now.floor(sister, other, beat);
        }
        return "" + alike;
    }

    String wouldClash(int sister, int bar, int by) {
        if (none(sister, bar) || out(by, -4, 4)) {
            return none(sister, bar) ? INDEX : ARGUMENT;
        }
        int clashes = now.clashes(bar, sister, by);
        return clashes < 0 ? ELEMENT : "" + clashes;
    }

    String bestShift(int sister, int bar) {
        if (none(sister, bar)) {
            return INDEX;
        }
        List<Integer> shifts = new ArrayList<>();
        for (int by = -4; by <= 4; by++) {
            if (now.clashes(bar, sister, by) >= 0) {
                shifts.add(by);
            }
        }
        Comparator<Integer> order = Comparator.comparing(by -> now.clashes(bar, sister, by));
        return "" + shifts.stream().min(order.thenComparing(Math::abs).thenComparing(by -> by)).get();
    }

    String ranked(int measure, int place) {
        if (out(measure, 0, 3) || out(place, 0, now.bars.size() - 1)) {
            return out(measure, 0, 3) ? ARGUMENT : ELEMENT;
        }
        List<Integer> order = new ArrayList<>();
        for (int bar = 0; bar < now.bars.size(); bar++) {
            order.add(bar);
        }
        order.sort(Comparator.comparing(bar -> -new int[] {now.steps(bar), now.clashes(bar, 0, 0), now.lacking(bar),
            Integer.bitCount(now.key(bar))}[measure]));
        return "" + order.get(place);
    }

    String line(int sister, int bar) {
        if (none(sister, bar)) {
            return INDEX;
        }
        List<String> signs = new ArrayList<>();
        for (Sign sign : now.bars.get(bar).get(sister)) {
            String head = sign.kind == '.' ? "." : "" + sign.floor + (sign.kind == '*' ? "" : sign.kind);
            signs.add(head + "*" + sign.length);
        }
        written = String.join(" ", signs);
        return "" + written.length();
    }

    String staff(int bar, int floor) {
        if (noBar(bar) || out(floor, 0, 4)) {
            return noBar(bar) ? INDEX : ARGUMENT;
        }
        written = "";
        for (int beat = 0; beat < 8; beat++) {
            String sisters = "";
            for (int sister = 0; sister < 4; sister++) {
                sisters += now.floor(sister, bar, beat) == floor ? "" + sister : "";
            }
            written += sisters.isEmpty() ? "-" : sisters.length() == 1 ? sisters : "+";
        }
        return "8";
    }

    String character(int index) {
        return out(index, 0, written.length() - 1) ? INDEX : "" + written.charAt(index);
    }

    String meanSteps() {
        return now.bars.isEmpty() ? "throws.ArithmeticException" : "" + (double) total() / now.bars.size();
    }

    private int total() {
        int total = 0;
        for (int bar = 0; bar < now.bars.size(); bar++) {
            total += now.steps(bar);
        }
        return total;
    }

    String fullShare() {
        if (now.bars.isEmpty()) {
            return "throws.ArithmeticException";
        }
        int full = 0;
        int rows = 0;
        for (int bar = 0; bar < now.bars.size(); bar++) {
            for (int sister = 0; sister < 4; sister++) {
                full += now.row(sister, bar).size() == 8 ? 1 : 0;
                rows++;
            }
        }
        return "" + (float) full / (float) rows;
    }

    String account(int what) {
        if (out(what, 0, 10)) {
            return ARGUMENT;
        }
        int signs = 0;
        int clashes = 0;
        for (int bar = 0; bar < now.bars.size(); bar++) {
            signs += now.bars.get(bar).stream().mapToInt(List::size).sum();
            clashes += now.clashes(bar, 0, 0);
        }
        int behind = now.coda == null ? -1 : now.coda[0];
        int to = now.coda == null ? -1 : now.coda[1];
        int[] accounts = {now.bars.size(), signs, total(), clashes, now.quarrels.size(), now.played().size(), behind,
            to, now.taken, befores.size(), buffer.length()};
        return "" + accounts[what];
    }
}
