import java.math.BigInteger;
import java.util.ArrayDeque;
import java.util.ArrayList;
import java.util.Arrays;
import java.util.Collections;
import java.util.Deque;
import java.util.List;
import java.util.NoSuchElementException;
import java.util.TreeSet;

/**
 * The document done again in other ways than the class does it, to compare both: a sequence is
 * written out step by step, a text is looked at by a stack of what stands open, the fewest moves
 * are searched, and each state is an object that never changes its rows.
 */
final class Model {
    /** What changes can change. */
    private static final class State implements Cloneable {
        int[] slotOf = identity();
        int[] colourOf = new int[32];
        List<int[]> log = List.of();
        int[][] shelves = new int[5][];
        int moves = 0;
        int read = 0;

        State copy() {
            try {
                State copy = (State) clone();
                copy.shelves = shelves.clone();
                return copy;
            } catch (CloneNotSupportedException e) {
                throw new AssertionError(e);
            }
        }
    }

    private State now = new State();
    private final Deque<State> past = new ArrayDeque<>();
    private State snapshot = null;
    private String input = "";
    private String line = "";
    private Integer errorPosition = null;
    private Integer reason = null;
    private int detail;

    Model() {
        for (int sticker = 0; sticker < 32; sticker++) {
            now.colourOf[sticker] = sticker / 8;
        }
    }

    static int[] identity() {
        int[] row = new int[32];
        for (int i = 0; i < 32; i++) {
            row[i] = i;
        }
        return row;
    }

    // A step is a row that tells for each slot where what is there goes.

    static int[] turned(int ring, int by) {
        int[] row = identity();
        for (int i = 0; i < by; i++) {
            for (int slot = 0; slot < 32; slot++) {
                if (row[slot] / 8 == ring) {
                    row[slot] = row[slot] % 8 == 7 ? row[slot] - 7 : row[slot] + 1;
                }
            }
        }
        return row;
    }

    static int[] shifted(int column, int by) {
        int[] row = identity();
        for (int i = 0; i < by; i++) {
            for (int slot = 0; slot < 32; slot++) {
                if (row[slot] % 8 == column) {
                    row[slot] = row[slot] / 8 == 3 ? column : row[slot] + 8;
                }
            }
        }
        return row;
    }

    static int[] after(int[] start, List<int[]> steps) {
        int[] row = start.clone();
        for (int[] step : steps) {
            for (int i = 0; i < 32; i++) {
                row[i] = step[row[i]];
            }
        }
        return row;
    }

    static int[] inverse(int[] row) {
        int[] back = new int[32];
        for (int target = 0; target < 32; target++) {
            int source = 0;
            while (row[source] != target) {
                source++;
            }
            back[target] = source;
        }
        return back;
    }

    static List<int[]> inverses(List<int[]> steps) {
        List<int[]> back = new ArrayList<>();
        for (int[] step : steps) {
            back.add(0, inverse(step));
        }
        return back;
    }

    private static TreeSet<Integer> cycleOf(int[] row, int slot) {
        TreeSet<Integer> cycle = new TreeSet<>();
        for (int at = slot; cycle.add(at); at = row[at]) {
            continue;
        }
        return cycle;
    }

    private static int moved(int[] row) {
        int moved = 0;
        for (int i = 0; i < 32; i++) {
            moved += row[i] == i ? 0 : 1;
        }
        return moved;
    }

    private static int order(int[] row) {
        BigInteger order = BigInteger.ONE;
        for (int slot = 0; slot < 32; slot++) {
            BigInteger length = BigInteger.valueOf(cycleOf(row, slot).size());
            order = order.multiply(length).divide(order.gcd(length));
        }
        return order.intValueExact();
    }

    private static boolean isEven(int[] row) {
        int[] left = row.clone();
        int exchanges = 0;
        for (int slot = 0; slot < 32; slot++) {
            while (left[slot] != slot) {
                int target = left[slot];
                left[slot] = left[target];
                left[target] = target;
                exchanges++;
            }
        }
        return exchanges % 2 == 0;
    }

    // Texts

    /** What may follow is told by what stands open, and by what was there last. */
    private int errorIn(String text) {
        Deque<Character> open = new ArrayDeque<>();
        char last = ' ';
        for (int i = 0; i < text.length(); i++) {
            char next = follow(open, last, text.charAt(i));
            if (next == '!') {
                return i;
            }
            last = next;
        }
        boolean isWhole = open.isEmpty() && (last == '.' || last == '\'');
        return isWhole ? -1 : text.length();
    }

    /** ' ' an item must come, '.' an item was there, '\'' one and its inverse; else what is in the midst. */
    private char follow(Deque<Character> open, char last, char sign) {
        switch (last) {
            case 'r':
                return "0123".indexOf(sign) >= 0 ? 'R' : '!';
            case 'R':
                return "1234567".indexOf(sign) >= 0 ? '.' : '!';
            case 'c':
                return "01234567".indexOf(sign) >= 0 ? 'C' : '!';
            case 'C':
                return "123".indexOf(sign) >= 0 ? '.' : '!';
            case 's':
                int shelf = "01234".indexOf(sign);
                return shelf >= 0 && now.shelves[shelf] != null ? '.' : '!';
            case ')':
                return "23456789".indexOf(sign) >= 0 ? '.' : '!';
            default:
                return begin(open, last, sign);
        }
    }

    private static char begin(Deque<Character> open, char last, char sign) {
        if (sign == 'r' || sign == 'c' || sign == 's') {
            return sign;
        }
        if (sign == '(' || sign == '[') {
            open.push(sign);
            return open.size() > 4 ? '!' : ' ';
        }
        if (last == ' ') {
            return '!';
        }
        if (sign == '\'') {
            return last == '.' ? '\'' : '!';
        }
        char inner = open.isEmpty() ? '!' : open.pop();
        if (inner == '(' && sign == ')') {
            return ')';
        }
        if (inner == '[' && sign == ',') {
            open.push(',');
            return ' ';
        }
        return inner == ',' && sign == ']' ? '.' : '!';
    }

    /** Writes a right text out as steps. */
    private List<int[]> steps(String text) {
        List<int[]> steps = new ArrayList<>();
        int at = 0;
        while (at < text.length()) {
            int end = endOfItem(text, at);
            List<int[]> item = stepsOfItem(text.substring(at, end));
            if (end < text.length() && text.charAt(end) == '\'') {
                item = inverses(item);
                end++;
            }
            steps.addAll(item);
            at = end;
        }
        return steps;
    }

    private static int endOfItem(String text, int begin) {
        switch (text.charAt(begin)) {
            case '(':
                return closing(text, begin) + 2;
            case '[':
                return closing(text, begin) + 1;
            case 's':
                return begin + 2;
            default:
                return begin + 3;
        }
    }

    private static int closing(String text, int begin) {
        int open = 0;
        for (int i = begin; ; i++) {
            if ("([".indexOf(text.charAt(i)) >= 0) {
                open++;
            } else if (")]".indexOf(text.charAt(i)) >= 0 && --open == 0) {
                return i;
            }
        }
    }

    private List<int[]> stepsOfItem(String item) {
        int which = item.charAt(1) - '0';
        int by = item.charAt(item.length() - 1) - '0';
        switch (item.charAt(0)) {
            case 'r':
                return List.of(turned(which, by));
            case 'c':
                return List.of(shifted(which, by));
            case 's':
                return List.of(now.shelves[which]);
            case '(':
                List<int[]> often = new ArrayList<>();
                List<int[]> once = steps(item.substring(1, item.length() - 2));
                for (int i = 0; i < by; i++) {
                    often.addAll(once);
                }
                return often;
            default:
                return commuted(item.substring(1, item.length() - 1));
        }
    }

    private List<int[]> commuted(String both) {
        int comma = 0;
        int open = 0;
        while (open > 0 || both.charAt(comma) != ',') {
            open += "([".indexOf(both.charAt(comma)) >= 0 ? 1 : 0;
            open -= ")]".indexOf(both.charAt(comma)) >= 0 ? 1 : 0;
            comma++;
        }
        List<int[]> first = steps(both.substring(0, comma));
        List<int[]> second = steps(both.substring(comma + 1));
        List<int[]> all = new ArrayList<>(first);
        all.addAll(second);
        all.addAll(inverses(first));
        all.addAll(inverses(second));
        return all;
    }

    // What the calls share

    private static void need(int index, int size) {
        if (index < 0 || index >= size) {
            throw new IndexOutOfBoundsException();
        }
    }

    private static void needFrom(int least, int number, int most) {
        if (number < least || number > most) {
            throw new IllegalArgumentException();
        }
    }

    private void refuseIf(boolean isSo, int itsReason, int itsDetail) {
        if (isSo) {
            reason = itsReason;
            detail = itsDetail;
            throw new UnsupportedOperationException();
        }
    }

    private int[] learnt(int shelf) {
        if (now.shelves[shelf] == null) {
            throw new NoSuchElementException();
        }
        return now.shelves[shelf];
    }

    private void change() {
        past.addLast(now);
        if (past.size() > 8) {
            past.removeFirst();
        }
        now = now.copy();
    }

    private int home() {
        return 32 - moved(now.slotOf);
    }

    private int put(int shelf, int[] row) {
        change();
        now.shelves[shelf] = row;
        return moved(row);
    }

    private void doMove(int kind, int which, int by, boolean isLogged) {
        int[] step = kind == 0 ? turned(which, by) : shifted(which, by);
        now.slotOf = after(now.slotOf, List.of(step));
        now.moves++;
        List<int[]> log = new ArrayList<>(now.log);
        if (isLogged) {
            log.add(new int[] {kind, which, by});
        } else {
            log.remove(log.size() - 1);
        }
        now.log = log.subList(Math.max(0, log.size() - 40), log.size());
    }

    private List<int[]> takeSequence() {
        String text = input;
        input = "";
        int error = errorIn(text);
        if (error >= 0) {
            errorPosition = error;
            throw new IllegalArgumentException();
        }
        List<int[]> steps = steps(text);
        refuseIf(steps.size() > 200, 2, 200);
        return steps;
    }

    // The face

    int turn(int ring, int by) {
        need(ring, 4);
        needFrom(1, by, 7);
        change();
        doMove(0, ring, by, true);
        return home();
    }

    int shift(int column, int by) {
        need(column, 8);
        needFrom(1, by, 3);
        change();
        doMove(1, column, by, true);
        return home();
    }

    int back() {
        refuseIf(now.log.isEmpty(), 1, 0);
        change();
        int[] last = now.log.get(now.log.size() - 1);
        doMove(last[0], last[1], (last[0] == 0 ? 8 : 4) - last[2], false);
        return now.log.size();
    }

    int scramble(int seed, int many) {
        needFrom(0, seed, 9999);
        needFrom(1, many, 60);
        change();
        int value = seed + 1;
        for (int i = 0; i < many; i++) {
            value = Math.floorMod(75 * value + 74, 65537);
            if ((value & 1) == 0) {
                doMove(0, (value >> 1) & 3, 1 + Math.floorMod(value >> 3, 7), true);
            } else {
                doMove(1, (value >> 1) & 7, 1 + Math.floorMod(value >> 4, 3), true);
            }
        }
        return home();
    }

    int logOf(int place, int what) {
        need(place, now.log.size());
        needFrom(0, what, 2);
        return now.log.get(place)[what];
    }

    int at(int slot) {
        need(slot, 32);
        return inverse(now.slotOf)[slot];
    }

    int where(int sticker) {
        need(sticker, 32);
        return now.slotOf[sticker];
    }

    int paint(int sticker, int colour) {
        need(sticker, 32);
        needFrom(0, colour, 5);
        int before = now.colourOf[sticker];
        refuseIf(before == colour, 4, colour);
        change();
        now.colourOf = now.colourOf.clone();
        now.colourOf[sticker] = colour;
        return before;
    }

    int colour(int slot) {
        return now.colourOf[at(slot)];
    }

    boolean isDone(int ring) {
        need(ring, 4);
        TreeSet<Integer> colours = new TreeSet<>();
        for (int column = 0; column < 8; column++) {
            colours.add(colour(8 * ring + column));
        }
        return colours.size() == 1;
    }

    int seams() {
        int seams = 0;
        for (int slot = 0; slot < 32; slot++) {
            for (int other = 0; other < slot; other++) {
                boolean isInRing = slot / 8 == other / 8 && (slot - other == 1 || slot - other == 7);
                boolean isInColumn = slot % 8 == other % 8 && (slot - other == 8 || slot - other == 24);
                seams += (isInRing || isInColumn) && colour(slot) != colour(other) ? 1 : 0;
            }
        }
        return seams;
    }

    int fewest(int slot, int other) {
        need(slot, 32);
        need(other, 32);
        TreeSet<Integer> reached = new TreeSet<>(List.of(slot));
        int moves = 0;
        while (!reached.contains(other)) {
            TreeSet<Integer> next = new TreeSet<>(reached);
            for (int from : reached) {
                for (int by = 1; by < 8; by++) {
                    next.add(turned(from / 8, by)[from]);
                }
                for (int by = 1; by < 4; by++) {
                    next.add(shifted(from % 8, by)[from]);
                }
            }
            reached = next;
            moves++;
        }
        return moves;
    }

    int learn(int shelf) {
        String text = input;
        input = "";
        need(shelf, 5);
        input = text;
        List<int[]> steps = takeSequence();
        put(shelf, after(identity(), steps));
        return steps.size();
    }

    int use(int shelf, int times) {
        need(shelf, 5);
        needFrom(-99, times, 99);
        needFrom(times < 0 ? -99 : 1, times, 99);
        refuseIf(now.shelves[shelf] == null, 3, shelf);
        change();
        List<int[]> once = List.of(now.shelves[shelf]);
        List<int[]> steps = times < 0 ? inverses(once) : once;
        now.slotOf = after(now.slotOf, Collections.nCopies(Math.abs(times), steps.get(0)));
        now.log = List.of();
        return home();
    }

    int join(int first, int second, int onto) {
        need(first, 5);
        need(second, 5);
        need(onto, 5);
        refuseIf(now.shelves[first] == null, 3, first);
        refuseIf(now.shelves[second] == null, 3, second);
        return put(onto, after(now.shelves[first], List.of(now.shelves[second])));
    }

    int invert(int shelf, int onto) {
        need(shelf, 5);
        need(onto, 5);
        refuseIf(now.shelves[shelf] == null, 3, shelf);
        return put(onto, inverse(now.shelves[shelf]));
    }

    int commute(int first, int second, int onto) {
        need(first, 5);
        need(second, 5);
        need(onto, 5);
        refuseIf(now.shelves[first] == null, 3, first);
        refuseIf(now.shelves[second] == null, 3, second);
        int[] one = now.shelves[first];
        int[] two = now.shelves[second];
        return put(onto, after(identity(), List.of(one, two, inverse(one), inverse(two))));
    }

    int forget(int shelf) {
        need(shelf, 5);
        refuseIf(now.shelves[shelf] == null, 3, shelf);
        change();
        now.shelves[shelf] = null;
        return filled();
    }

    int goesTo(int shelf, int slot) {
        need(shelf, 5);
        need(slot, 32);
        return learnt(shelf)[slot];
    }

    int shelfOf(int shelf, int what) {
        need(shelf, 5);
        needFrom(0, what, 3);
        int[] row = learnt(shelf);
        TreeSet<Integer> lowest = new TreeSet<>();
        int longest = 0;
        for (int slot = 0; slot < 32; slot++) {
            TreeSet<Integer> cycle = cycleOf(row, slot);
            longest = Math.max(longest, cycle.size());
            if (cycle.size() > 1) {
                lowest.add(cycle.first());
            }
        }
        return new int[] {moved(row), lowest.size(), longest, order(row)}[what];
    }

    int orderAgain(int shelf) {
        need(shelf, 5);
        return order(learnt(shelf));
    }

    boolean isEven(int shelf, boolean isAgain) {
        need(shelf, 5);
        return isEven(learnt(shelf));
    }

    int cycle(int shelf, int slot) {
        need(shelf, 5);
        need(slot, 32);
        return cycleOf(learnt(shelf), slot).size();
    }

    boolean commutes(int shelf, int other) {
        need(shelf, 5);
        need(other, 5);
        int[] one = learnt(shelf);
        int[] two = learnt(other);
        return Arrays.equals(after(one, List.of(two)), after(two, List.of(one)));
    }

    int line(int ring) {
        need(ring, 4);
        line = "";
        for (int column = 0; column < 8; column++) {
            line += colour(8 * ring + column);
        }
        return line.length();
    }

    int logLine() {
        line = "";
        for (int[] move : now.log) {
            line += (move[0] == 0 ? "r" : "c") + move[1] + move[2];
        }
        return line.length();
    }

    int cycleLine(int shelf) {
        need(shelf, 5);
        int[] row = learnt(shelf);
        line = "";
        for (int slot = 0; slot < 32; slot++) {
            if (row[slot] != slot && cycleOf(row, slot).first() == slot) {
                String cycle = "" + slot;
                for (int at = row[slot]; at != slot; at = row[at]) {
                    cycle += " " + at;
                }
                line += "(" + cycle + ")";
            }
        }
        return line.length();
    }

    char character(int index) {
        need(index, line.length());
        return line.charAt(index);
    }

    int append(char c) {
        if (input.length() == 60) {
            throw new IllegalStateException();
        }
        input += c;
        return input.length();
    }

    int read() {
        List<int[]> steps = takeSequence();
        change();
        now.slotOf = after(now.slotOf, steps);
        now.log = List.of();
        now.read++;
        return steps.size();
    }

    int errorPosition() {
        if (errorPosition == null) {
            throw new NoSuchElementException();
        }
        return errorPosition;
    }

    int refusal(boolean isDetail) {
        if (reason == null) {
            throw new NoSuchElementException();
        }
        return isDetail ? detail : reason;
    }

    boolean isFilled(int shelf) {
        return now.shelves[shelf] != null;
    }

    private int filled() {
        int filled = 0;
        for (int[] row : now.shelves) {
            filled += row == null ? 0 : 1;
        }
        return filled;
    }

    int account(int what) {
        needFrom(0, what, 7);
        int done = 0;
        for (int ring = 0; ring < 4; ring++) {
            done += isDone(ring) ? 1 : 0;
        }
        return new int[] {home(), done, now.log.size(), now.moves, now.read, filled(), input.length(),
            past.size()}[what];
    }

    boolean isWell() {
        return true;
    }

    double meanAway() {
        double sum = 0;
        for (int sticker = 0; sticker < 32; sticker++) {
            sum += fewest(now.slotOf[sticker], sticker);
        }
        return sum / 32.0;
    }

    float seamShare() {
        return seams() / 64.0f;
    }

    int undo() {
        if (past.isEmpty()) {
            throw new IllegalStateException();
        }
        now = past.removeLast();
        return past.size();
    }

    int save() {
        snapshot = now.copy();
        return home();
    }

    int restore() {
        if (snapshot == null) {
            throw new IllegalStateException();
        }
        now = snapshot.copy();
        past.clear();
        return home();
    }
}
