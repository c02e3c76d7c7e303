import java.util.NoSuchElementException;

/**
 * A barrel of rings that are turned and columns that are shifted, as ../shared/DOC.md promises it.
 * All rows are made by the constructor and used again by every call, so that a call makes nothing
 * but the exception that it throws.
 */
public final class TwistyBarrels {
    private static final int RINGS = 4;
    private static final int COLUMNS = 8;
    private static final int SLOTS = 32;
    private static final int PAIRS = 64;
    private static final int COLOURS = 6;
    private static final int SHELVES = 5;
    private static final int MOST_LOGGED = 40;
    private static final int MOST_SIGNS = 60;
    private static final int MOST_COUNTED = 200;
    private static final int MOST_TIMES = 99;
    private static final int MOST_SEED = 9999;
    private static final int MOST_SCRAMBLED = 60;
    private static final int MOST_UNDONE = 8;
    private static final int DEEPEST = 4;
    // The order of 32 slots is at most 5460; the bound only ends the loop in its own lines.
    private static final int MOST_ORDER = 1000000;

    private static final int TURN = 0;
    private static final int SHIFT = 1;

    private static final int LOG_IS_EMPTY = 1;
    private static final int COUNTS_TOO_MUCH = 2;
    private static final int SHELF_IS_EMPTY = 3;
    private static final int COLOUR_IS_SO = 4;

    private static final int NONE = -1;
    private static final int WRONG = -1;
    private static final int NO_SIGN = -1;

    private final State now = new State();
    private final Past past = new Past();
    private final State snapshot = new State();
    private boolean hasSnapshot = false;
    private final SequenceReader reader = new SequenceReader();
    private final Signs written = new Signs();
    private final Permutation made = new Permutation();
    private final Permutation spare = new Permutation();
    private int errorKept = NONE;
    private int reasonKept = NONE;
    private int detailKept = 0;

    public TwistyBarrels() {
    }

    // Moves

    public int turn(int ring, int by) throws IndexOutOfBoundsException, IllegalArgumentException {
        needRing(ring);
        needFromTo(by, 1, COLUMNS - 1);
        past.hold(now);
        doLoggedMove(TURN, ring, by);
        return now.barrel.countHome();
    }

    public int shift(int column, int by) throws IndexOutOfBoundsException, IllegalArgumentException {
        needIndex(column, COLUMNS);
        needFromTo(by, 1, RINGS - 1);
        past.hold(now);
        doLoggedMove(SHIFT, column, by);
        return now.barrel.countHome();
    }

    public int back() throws UnsupportedOperationException {
        int last = now.log.size() - 1;
        if (last < 0) {
            refuse(LOG_IS_EMPTY, 0);
        }
        past.hold(now);
        int kind = now.log.part(last, 0);
        doMove(kind, now.log.part(last, 1), roundOf(kind) - now.log.part(last, 2));
        now.log.dropLast();
        return now.log.size();
    }

    public int scramble(int seed, int many) throws IllegalArgumentException {
        needFromTo(seed, 0, MOST_SEED);
        needFromTo(many, 1, MOST_SCRAMBLED);
        past.hold(now);
        int value = seed + 1;
        for (int move = 0; move < many; move++) {
            value = (75 * value + 74) % 65537;
            if (value % 2 == 0) {
                doLoggedMove(TURN, value / 2 % RINGS, 1 + value / 8 % 7);
            } else {
                doLoggedMove(SHIFT, value / 2 % COLUMNS, 1 + value / 16 % 3);
            }
        }
        return now.barrel.countHome();
    }

    public int logOf(int place, int what) throws IndexOutOfBoundsException, IllegalArgumentException {
        needIndex(place, now.log.size());
        needFromTo(what, 0, MoveLog.PARTS - 1);
        return now.log.part(place, what);
    }

    // Slots and colours

    public int at(int slot) throws IndexOutOfBoundsException {
        needSlot(slot);
        return now.barrel.stickerIn(slot);
    }

    public int where(int sticker) throws IndexOutOfBoundsException {
        needSlot(sticker);
        return now.barrel.slotOf(sticker);
    }

    public int paint(int sticker, int colour)
            throws IndexOutOfBoundsException, IllegalArgumentException, UnsupportedOperationException {
        needSlot(sticker);
        needFromTo(colour, 0, COLOURS - 1);
        int before = now.barrel.colourOf(sticker);
        if (before == colour) {
            refuse(COLOUR_IS_SO, colour);
        }
        past.hold(now);
        now.barrel.giveColour(sticker, colour);
        return before;
    }

    public int colour(int slot) throws IndexOutOfBoundsException {
        needSlot(slot);
        return now.barrel.colourIn(slot);
    }

    public boolean isDone(int ring) throws IndexOutOfBoundsException {
        needRing(ring);
        return now.barrel.hasOneColour(ring);
    }

    public int seams() {
        return now.barrel.countSeams();
    }

    public int fewest(int slot, int other) throws IndexOutOfBoundsException {
        needSlot(slot);
        needSlot(other);
        return movesBetween(slot, other);
    }

    // Shelves

    public int learn(int shelf)
            throws IndexOutOfBoundsException, IllegalArgumentException, UnsupportedOperationException {
        if (!isIndex(shelf, SHELVES)) {
            reader.text.clear();
            throw new IndexOutOfBoundsException("there is no such shelf");
        }
        int counts = takeSequence();
        past.hold(now);
        now.putOn(shelf, reader.result());
        return counts;
    }

    public int use(int shelf, int times)
            throws IndexOutOfBoundsException, IllegalArgumentException, UnsupportedOperationException {
        needShelf(shelf);
        int often = times < 0 ? -times : times;
        needFromTo(often, 1, MOST_TIMES);
        needFilled(shelf);
        past.hold(now);
        if (times < 0) {
            spare.toInverse(now.onShelf(shelf));
        } else {
            spare.toCopy(now.onShelf(shelf));
        }
        made.toPower(spare, often);
        now.barrel.follow(made);
        now.log.clear();
        return now.barrel.countHome();
    }

    public int join(int first, int second, int onto)
            throws IndexOutOfBoundsException, UnsupportedOperationException {
        needShelf(first);
        needShelf(second);
        needShelf(onto);
        needFilled(first);
        needFilled(second);
        made.toCopy(now.onShelf(first));
        made.then(now.onShelf(second));
        return putMade(onto);
    }

    public int invert(int shelf, int onto) throws IndexOutOfBoundsException, UnsupportedOperationException {
        needShelf(shelf);
        needShelf(onto);
        needFilled(shelf);
        made.toInverse(now.onShelf(shelf));
        return putMade(onto);
    }

    public int commute(int first, int second, int onto)
            throws IndexOutOfBoundsException, UnsupportedOperationException {
        needShelf(first);
        needShelf(second);
        needShelf(onto);
        needFilled(first);
        needFilled(second);
        made.toCommuted(now.onShelf(first), now.onShelf(second), spare);
        return putMade(onto);
    }

    public int forget(int shelf) throws IndexOutOfBoundsException, UnsupportedOperationException {
        needShelf(shelf);
        needFilled(shelf);
        past.hold(now);
        now.takeFrom(shelf);
        return now.countFilled();
    }

    public int goesTo(int shelf, int slot) throws IndexOutOfBoundsException, NoSuchElementException {
        needShelf(shelf);
        needSlot(slot);
        needLearnt(shelf);
        return now.onShelf(shelf).of(slot);
    }

    public int shelfOf(int shelf, int what)
            throws IndexOutOfBoundsException, IllegalArgumentException, NoSuchElementException {
        needShelf(shelf);
        needFromTo(what, 0, 3);
        needLearnt(shelf);
        Permutation learnt = now.onShelf(shelf);
        switch (what) {
            case 0:
                return learnt.countMoved();
            case 1:
                return learnt.countCycles(2);
            case 2:
                return learnt.longestCycle();
            default:
                return learnt.orderByCycles();
        }
    }

    public int orderAgain(int shelf) throws IndexOutOfBoundsException, NoSuchElementException {
        needShelf(shelf);
        needLearnt(shelf);
        return now.onShelf(shelf).orderByDoing(made);
    }

    public boolean isEven(int shelf, boolean isAgain) throws IndexOutOfBoundsException, NoSuchElementException {
        needShelf(shelf);
        needLearnt(shelf);
        Permutation learnt = now.onShelf(shelf);
        return isAgain ? learnt.isEvenByPairs() : learnt.isEvenByCycles();
    }

    public int cycle(int shelf, int slot) throws IndexOutOfBoundsException, NoSuchElementException {
        needShelf(shelf);
        needSlot(slot);
        needLearnt(shelf);
        return now.onShelf(shelf).cycleLength(slot);
    }

    public boolean commutes(int shelf, int other) throws IndexOutOfBoundsException, NoSuchElementException {
        needShelf(shelf);
        needShelf(other);
        needLearnt(shelf);
        needLearnt(other);
        return now.onShelf(shelf).isInEitherOrder(now.onShelf(other));
    }

    // Lines, texts, accounts, undo and snapshot

    public int line(int ring) throws IndexOutOfBoundsException {
        needRing(ring);
        written.clear();
        for (int column = 0; column < COLUMNS; column++) {
            written.addNumber(now.barrel.colourIn(ring * COLUMNS + column));
        }
        return written.size();
    }

    public int logLine() {
        written.clear();
        for (int place = 0; place < now.log.size(); place++) {
            written.addSign(now.log.part(place, 0) == TURN ? 'r' : 'c');
            written.addNumber(now.log.part(place, 1));
            written.addNumber(now.log.part(place, 2));
        }
        return written.size();
    }

    public int cycleLine(int shelf) throws IndexOutOfBoundsException, NoSuchElementException {
        needShelf(shelf);
        needLearnt(shelf);
        Permutation learnt = now.onShelf(shelf);
        written.clear();
        for (int slot = 0; slot < SLOTS; slot++) {
            if (learnt.of(slot) != slot && learnt.isLowestOfCycle(slot)) {
                written.addCycle(learnt, slot);
            }
        }
        return written.size();
    }

    public char character(int index) throws IndexOutOfBoundsException {
        needIndex(index, written.size());
        return (char) written.signAt(index);
    }

    public int append(char c) throws IllegalStateException {
        if (reader.text.size() >= MOST_SIGNS) {
            throw new IllegalStateException("the input is full");
        }
        reader.text.addSign(c);
        return reader.text.size();
    }

    public int read() throws IllegalArgumentException, UnsupportedOperationException {
        int counts = takeSequence();
        past.hold(now);
        now.barrel.follow(reader.result());
        now.log.clear();
        now.sequencesRead++;
        return counts;
    }

    public int errorPosition() throws NoSuchElementException {
        if (errorKept == NONE) {
            throw new NoSuchElementException("no error position was kept");
        }
        return errorKept;
    }

    public int refusal(boolean isDetail) throws NoSuchElementException {
        if (reasonKept == NONE) {
            throw new NoSuchElementException("nothing was refused");
        }
        return isDetail ? detailKept : reasonKept;
    }

    public int account(int what) throws IllegalArgumentException {
        switch (what) {
            case 0:
                return now.barrel.countHome();
            case 1:
                return now.barrel.countDone();
            case 2:
                return now.log.size();
            case 3:
                return now.movesDone;
            case 4:
                return now.sequencesRead;
            case 5:
                return now.countFilled();
            case 6:
                return reader.text.size();
            case 7:
                return past.size();
            default:
                throw new IllegalArgumentException("there is no such account");
        }
    }

    public boolean isWell() {
        if (!now.barrel.isEachWhereTold()) {
            return false;
        }
        for (int shelf = 0; shelf < SHELVES; shelf++) {
            if (now.isFilled(shelf) && !isUndoneByInverse(now.onShelf(shelf))) {
                return false;
            }
        }
        return true;
    }

    public double meanAway() {
        return (double) now.barrel.movesToHomes() / (double) SLOTS;
    }

    public float seamShare() {
        return (float) now.barrel.countSeams() / (float) PAIRS;
    }

    public int undo() throws IllegalStateException {
        if (past.size() == 0) {
            throw new IllegalStateException("no change can be undone");
        }
        past.giveBack(now);
        return past.size();
    }

    public int save() {
        snapshot.copyFrom(now);
        hasSnapshot = true;
        return now.barrel.countHome();
    }

    public int restore() throws IllegalStateException {
        if (!hasSnapshot) {
            throw new IllegalStateException("there is no snapshot");
        }
        now.copyFrom(snapshot);
        past.clear();
        return now.barrel.countHome();
    }

    private static boolean isIndex(int index, int size) {
        return index >= 0 && index < size;
    }

    private static void needIndex(int index, int size) {
        if (!isIndex(index, size)) {
            throw new IndexOutOfBoundsException("there is no such place");
        }
    }

    private static void needRing(int ring) {
        needIndex(ring, RINGS);
    }

    private static void needSlot(int slot) {
        needIndex(slot, SLOTS);
    }

    private static void needShelf(int shelf) {
        needIndex(shelf, SHELVES);
    }

    private static void needFromTo(int number, int least, int most) {
        if (number < least || number > most) {
            throw new IllegalArgumentException("the number is out of range");
        }
    }

    private void needFilled(int shelf) {
        if (!now.isFilled(shelf)) {
            refuse(SHELF_IS_EMPTY, shelf);
        }
    }

    private void needLearnt(int shelf) {
        if (!now.isFilled(shelf)) {
            throw new NoSuchElementException("there is nothing on the shelf");
        }
    }

    private void refuse(int reason, int detail) {
        reasonKept = reason;
        detailKept = detail;
        throw new UnsupportedOperationException("it is refused");
    }

    /** By how much a ring or column is moved once round. */
    private static int roundOf(int kind) {
        return kind == TURN ? COLUMNS : RINGS;
    }

    private void doMove(int kind, int which, int by) {
        made.toMove(kind, which, by);
        now.barrel.follow(made);
        now.movesDone++;
    }

    private void doLoggedMove(int kind, int which, int by) {
        doMove(kind, which, by);
        now.log.add(kind, which, by);
    }

    private int putMade(int onto) {
        past.hold(now);
        now.putOn(onto, made);
        return made.countMoved();
    }

    private boolean isUndoneByInverse(Permutation learnt) {
        made.toCopy(learnt);
        spare.toInverse(learnt);
        made.then(spare);
        return made.movesNothing();
    }

    /** Empties the input, whether it is a sequence or not; what it does is then in reader.result(). */
    private int takeSequence() {
        int counts = reader.understand(now);
        reader.text.clear();
        if (counts == WRONG) {
            errorKept = reader.place();
            throw new IllegalArgumentException("the text is no sequence");
        }
        if (counts > MOST_COUNTED) {
            refuse(COUNTS_TOO_MUCH, MOST_COUNTED);
        }
        return counts;
    }

    /** Any turn or shift counts one, however far it moves, so that two are always enough. */
    private static int movesBetween(int slot, int other) {
        int turns = slot % COLUMNS == other % COLUMNS ? 0 : 1;
        int shifts = slot / COLUMNS == other / COLUMNS ? 0 : 1;
        return turns + shifts;
    }

    /** Tells for each slot to which slot what is there goes. */
    private static final class Permutation {
        private final int[] goes = new int[SLOTS];

        Permutation() {
            for (int slot = 0; slot < SLOTS; slot++) {
                goes[slot] = slot;
            }
        }

        /** What is no slot stays, so that no index is ever outside the row. */
        int of(int slot) {
            return isIndex(slot, SLOTS) ? goes[slot] : slot;
        }

        void toNothing() {
            for (int slot = 0; slot < SLOTS; slot++) {
                goes[slot] = slot;
            }
        }

        void toCopy(Permutation other) {
            for (int slot = 0; slot < SLOTS; slot++) {
                goes[slot] = other.goes[slot];
            }
        }

        void toMove(int kind, int which, int by) {
            if (kind == TURN) {
                toTurn(which, by);
            } else {
                toShift(which, by);
            }
        }

        private void toTurn(int ring, int by) {
            for (int slot = 0; slot < SLOTS; slot++) {
                boolean isMoved = slot / COLUMNS == ring;
                goes[slot] = isMoved ? ring * COLUMNS + (slot % COLUMNS + by) % COLUMNS : slot;
            }
        }

        private void toShift(int column, int by) {
            for (int slot = 0; slot < SLOTS; slot++) {
                boolean isMoved = slot % COLUMNS == column;
                goes[slot] = isMoved ? (slot + by * COLUMNS) % SLOTS : slot;
            }
        }

        /** The other one must not be this one, whose row changes meanwhile. */
        void toInverse(Permutation other) {
            for (int slot = 0; slot < SLOTS; slot++) {
                int reached = other.goes[slot];
                if (reached >= 0 && reached < SLOTS) {
                    goes[reached] = slot;
                }
            }
        }

        /** The other one must not be this one, whose row changes meanwhile. */
        void then(Permutation other) {
            for (int slot = 0; slot < SLOTS; slot++) {
                int reached = goes[slot];
                if (reached >= 0 && reached < SLOTS) {
                    goes[slot] = other.goes[reached];
                }
            }
        }

        void toPower(Permutation base, int times) {
            toNothing();
            for (int time = 0; time < times; time++) {
                then(base);
            }
        }

        void toCommuted(Permutation first, Permutation second, Permutation inverse) {
            toCopy(first);
            then(second);
            inverse.toInverse(first);
            then(inverse);
            inverse.toInverse(second);
            then(inverse);
        }

        boolean movesNothing() {
            for (int slot = 0; slot < SLOTS; slot++) {
                if (goes[slot] != slot) {
                    return false;
                }
            }
            return true;
        }

        int countMoved() {
            int moved = 0;
            for (int slot = 0; slot < SLOTS; slot++) {
                if (goes[slot] != slot) {
                    moved++;
                }
            }
            return moved;
        }

        int cycleLength(int slot) {
            int length = 1;
            int reached = of(slot);
            while (reached != slot && length < SLOTS) {
                reached = of(reached);
                length++;
            }
            return length;
        }

        boolean isLowestOfCycle(int slot) {
            int reached = of(slot);
            for (int step = 0; step < SLOTS && reached != slot; step++) {
                if (reached < slot) {
                    return false;
                }
                reached = of(reached);
            }
            return true;
        }

        int countCycles(int leastLength) {
            int cycles = 0;
            for (int slot = 0; slot < SLOTS; slot++) {
                if (isLowestOfCycle(slot) && cycleLength(slot) >= leastLength) {
                    cycles++;
                }
            }
            return cycles;
        }

        int longestCycle() {
            int longest = 1;
            for (int slot = 0; slot < SLOTS; slot++) {
                longest = Math.max(longest, cycleLength(slot));
            }
            return longest;
        }

        int orderByCycles() {
            int order = 1;
            for (int slot = 0; slot < SLOTS; slot++) {
                order = leastCommonMultiple(order, cycleLength(slot));
            }
            return order;
        }

        int orderByDoing(Permutation done) {
            done.toCopy(this);
            int order = 1;
            while (order < MOST_ORDER && !done.movesNothing()) {
                done.then(this);
                order++;
            }
            return order;
        }

        /** A cycle of some slots is made by one exchange less than it has slots. */
        boolean isEvenByCycles() {
            return (SLOTS - countCycles(1)) % 2 == 0;
        }

        boolean isEvenByPairs() {
            boolean isEvenSoFar = true;
            for (int low = 0; low < SLOTS; low++) {
                for (int high = low + 1; high < SLOTS; high++) {
                    if (goes[low] > goes[high]) {
                        isEvenSoFar = !isEvenSoFar;
                    }
                }
            }
            return isEvenSoFar;
        }

        boolean isInEitherOrder(Permutation other) {
            for (int slot = 0; slot < SLOTS; slot++) {
                if (other.of(goes[slot]) != of(other.of(slot))) {
                    return false;
                }
            }
            return true;
        }

        private static int leastCommonMultiple(int one, int other) {
            int divisor = one;
            int left = other;
            for (int step = 0; step < SLOTS && left != 0; step++) {
                int next = divisor % left;
                divisor = left;
                left = next;
            }
            return divisor == 0 ? 0 : one / divisor * other;
        }
    }

    /** Which sticker is where, told both ways, and the colours of the stickers. */
    private static final class Barrel {
        private final int[] stickers = new int[SLOTS];
        private final int[] slots = new int[SLOTS];
        private final int[] colours = new int[SLOTS];

        Barrel() {
            for (int home = 0; home < SLOTS; home++) {
                stickers[home] = home;
                slots[home] = home;
                colours[home] = home / COLUMNS;
            }
        }

        void copyFrom(Barrel other) {
            System.arraycopy(other.stickers, 0, stickers, 0, SLOTS);
            System.arraycopy(other.slots, 0, slots, 0, SLOTS);
            System.arraycopy(other.colours, 0, colours, 0, SLOTS);
        }

        int stickerIn(int slot) {
            return isIndex(slot, SLOTS) ? stickers[slot] : NONE;
        }

        int slotOf(int sticker) {
            return isIndex(sticker, SLOTS) ? slots[sticker] : NONE;
        }

        int colourOf(int sticker) {
            return isIndex(sticker, SLOTS) ? colours[sticker] : NONE;
        }

        int colourIn(int slot) {
            return colourOf(stickerIn(slot));
        }

        void giveColour(int sticker, int colour) {
            if (isIndex(sticker, SLOTS)) {
                colours[sticker] = colour;
            }
        }

        void follow(Permutation permutation) {
            for (int sticker = 0; sticker < SLOTS; sticker++) {
                int slot = permutation.of(slots[sticker]);
                slots[sticker] = slot;
                if (isIndex(slot, SLOTS)) {
                    stickers[slot] = sticker;
                }
            }
        }

        int countHome() {
            int home = 0;
            for (int slot = 0; slot < SLOTS; slot++) {
                if (stickers[slot] == slot) {
                    home++;
                }
            }
            return home;
        }

        boolean hasOneColour(int ring) {
            int first = colourIn(ring * COLUMNS);
            for (int column = 1; column < COLUMNS; column++) {
                if (colourIn(ring * COLUMNS + column) != first) {
                    return false;
                }
            }
            return true;
        }

        int countDone() {
            int done = 0;
            for (int ring = 0; ring < RINGS; ring++) {
                if (hasOneColour(ring)) {
                    done++;
                }
            }
            return done;
        }

        int countSeams() {
            int seams = 0;
            for (int slot = 0; slot < SLOTS; slot++) {
                int rightOfIt = slot - slot % COLUMNS + (slot + 1) % COLUMNS;
                int below = (slot + COLUMNS) % SLOTS;
                if (colourIn(slot) != colourIn(rightOfIt)) {
                    seams++;
                }
                if (colourIn(slot) != colourIn(below)) {
                    seams++;
                }
            }
            return seams;
        }

        int movesToHomes() {
            int moves = 0;
            for (int sticker = 0; sticker < SLOTS; sticker++) {
                moves += movesBetween(slots[sticker], sticker);
            }
            return moves;
        }

        /** Looks through all slots for each sticker, and so does not trust the row of slots. */
        boolean isEachWhereTold() {
            for (int sticker = 0; sticker < SLOTS; sticker++) {
                int found = 0;
                for (int slot = 0; slot < SLOTS; slot++) {
                    if (stickers[slot] == sticker) {
                        found++;
                    }
                }
                if (found != 1 || stickerIn(slots[sticker]) != sticker) {
                    return false;
                }
            }
            return true;
        }
    }

    /** The latest moves, each with its kind, its ring or column, and by how much. */
    private static final class MoveLog {
        static final int PARTS = 3;

        private final int[] parts = new int[MOST_LOGGED * PARTS];
        private int moves = 0;

        void copyFrom(MoveLog other) {
            System.arraycopy(other.parts, 0, parts, 0, MOST_LOGGED * PARTS);
            moves = other.moves;
        }

        int size() {
            return moves;
        }

        int part(int place, int what) {
            boolean isThere = isIndex(place, MOST_LOGGED) && place < moves && isIndex(what, PARTS);
            return isThere ? parts[place * PARTS + what] : NONE;
        }

        void add(int kind, int which, int by) {
            if (moves >= MOST_LOGGED) {
                System.arraycopy(parts, PARTS, parts, 0, (MOST_LOGGED - 1) * PARTS);
                moves = MOST_LOGGED - 1;
            }
            if (isIndex(moves, MOST_LOGGED)) {
                parts[moves * PARTS] = kind;
                parts[moves * PARTS + 1] = which;
                parts[moves * PARTS + 2] = by;
                moves++;
            }
        }

        void dropLast() {
            if (moves > 0) {
                moves--;
            }
        }

        void clear() {
            moves = 0;
        }
    }

    /** All that changes can change, so that undo and the snapshot only copy it. */
    private static final class State {
        final Barrel barrel = new Barrel();
        final MoveLog log = new MoveLog();
        int movesDone = 0;
        int sequencesRead = 0;
        private final Permutation[] learnt = new Permutation[SHELVES];
        private final boolean[] filled = new boolean[SHELVES];

        State() {
            for (int shelf = 0; shelf < SHELVES; shelf++) {
                learnt[shelf] = new Permutation();
            }
        }

        void copyFrom(State other) {
            barrel.copyFrom(other.barrel);
            log.copyFrom(other.log);
            movesDone = other.movesDone;
            sequencesRead = other.sequencesRead;
            for (int shelf = 0; shelf < SHELVES; shelf++) {
                learnt[shelf].toCopy(other.learnt[shelf]);
                filled[shelf] = other.filled[shelf];
            }
        }

        boolean isFilled(int shelf) {
            return isIndex(shelf, SHELVES) && filled[shelf];
        }

        /** The callers have looked whether there is such a shelf; any other would be the first one. */
        Permutation onShelf(int shelf) {
            return learnt[isIndex(shelf, SHELVES) ? shelf : 0];
        }

        void putOn(int shelf, Permutation permutation) {
            if (isIndex(shelf, SHELVES)) {
                learnt[shelf].toCopy(permutation);
                filled[shelf] = true;
            }
        }

        void takeFrom(int shelf) {
            if (isIndex(shelf, SHELVES)) {
                filled[shelf] = false;
            }
        }

        int countFilled() {
            int count = 0;
            for (int shelf = 0; shelf < SHELVES; shelf++) {
                if (filled[shelf]) {
                    count++;
                }
            }
            return count;
        }
    }

    /** The states before the latest changes, the latest last; the oldest one's rows are used again. */
    private static final class Past {
        private final State[] states = new State[MOST_UNDONE];
        private int held = 0;

        Past() {
            for (int index = 0; index < MOST_UNDONE; index++) {
                states[index] = new State();
            }
        }

        int size() {
            return held;
        }

        void clear() {
            held = 0;
        }

        void hold(State state) {
            if (held >= MOST_UNDONE) {
                State oldest = states[0];
                for (int index = 1; index < MOST_UNDONE; index++) {
                    states[index - 1] = states[index];
                }
                states[MOST_UNDONE - 1] = oldest;
                held = MOST_UNDONE - 1;
            }
            if (isIndex(held, MOST_UNDONE)) {
                states[held].copyFrom(state);
                held++;
            }
        }

        void giveBack(State state) {
            int latest = held - 1;
            if (isIndex(latest, MOST_UNDONE)) {
                state.copyFrom(states[latest]);
                held = latest;
            }
        }
    }

    /** The input, or the line that was written last. */
    private static final class Signs {
        // The longest line is that of a full log; the input ends earlier.
        private static final int MOST = MOST_LOGGED * MoveLog.PARTS;

        private final char[] signs = new char[MOST];
        private int length = 0;

        int size() {
            return length;
        }

        void clear() {
            length = 0;
        }

        int signAt(int index) {
            return index >= 0 && index < length && index < MOST ? signs[index] : NO_SIGN;
        }

        void addSign(char sign) {
            if (isIndex(length, MOST)) {
                signs[length] = sign;
                length++;
            }
        }

        /** A slot, a colour or a part of a move, none of which has more than two digits. */
        void addNumber(int number) {
            if (number >= 10) {
                addSign((char) ('0' + number / 10));
            }
            addSign((char) ('0' + number % 10));
        }

        void addCycle(Permutation permutation, int lowest) {
            addSign('(');
            addNumber(lowest);
            int reached = permutation.of(lowest);
            for (int step = 1; step < SLOTS && reached != lowest; step++) {
                addSign(' ');
                addNumber(reached);
                reached = permutation.of(reached);
            }
            addSign(')');
        }
    }

    /**
     * Understands a text as a sequence: each method that understands a part moves the place behind
     * it and answers how much it counts, or it answers WRONG and leaves the place at the sign that
     * cannot continue. Each depth has rows of its own, for the sequence that stands there and for
     * the item in it, because a sequence that stands within another one comes between.
     */
    private static final class SequenceReader {
        final Signs text = new Signs();
        private int place = 0;
        private final Permutation[] sequences = new Permutation[DEEPEST + 1];
        private final Permutation[] items = new Permutation[DEEPEST + 1];
        private final Permutation[] firsts = new Permutation[DEEPEST + 1];
        private final Permutation inverse = new Permutation();

        SequenceReader() {
            for (int depth = 0; depth <= DEEPEST; depth++) {
                sequences[depth] = new Permutation();
                items[depth] = new Permutation();
                firsts[depth] = new Permutation();
            }
        }

        /** Where the text is wrong, if it was. */
        int place() {
            return place;
        }

        /** What the sequence does, if it was one. */
        Permutation result() {
            return sequences[0];
        }

        int understand(State shelves) {
            place = 0;
            int counts = sequence(0, shelves);
            return place < text.size() ? WRONG : counts;
        }

        private boolean isItemNext() {
            int sign = text.signAt(place);
            return sign == 'r' || sign == 'c' || sign == 's' || sign == '(' || sign == '[';
        }

        private int sequence(int depth, State shelves) {
            if (!isIndex(depth, DEEPEST + 1)) {
                return WRONG;
            }
            Permutation whole = sequences[depth];
            Permutation part = items[depth];
            whole.toNothing();
            int counts = 0;
            for (int item = 0; item < MOST_SIGNS && (item == 0 || isItemNext()); item++) {
                int more = item(depth, shelves, part);
                if (more == WRONG) {
                    return WRONG;
                }
                counts += more;
                whole.then(part);
            }
            return counts;
        }

        private int item(int depth, State shelves, Permutation result) {
            int counts = WRONG;
            switch (text.signAt(place)) {
                case 'r':
                    counts = moveItem(TURN, result);
                    break;
                case 'c':
                    counts = moveItem(SHIFT, result);
                    break;
                case 's':
                    counts = shelfItem(shelves, result);
                    break;
                case '(':
                    counts = repeatedItem(depth, shelves, result);
                    break;
                case '[':
                    counts = commutedItem(depth, shelves, result);
                    break;
                default:
                    return WRONG;
            }
            if (counts != WRONG && text.signAt(place) == '\'') {
                place++;
                inverse.toInverse(result);
                result.toCopy(inverse);
            }
            return counts;
        }

        private int digit(int least, int most) {
            int number = text.signAt(place) - '0';
            if (number < least || number > most) {
                return WRONG;
            }
            place++;
            return number;
        }

        private int moveItem(int kind, Permutation result) {
            place++;
            int which = digit(0, kind == TURN ? RINGS - 1 : COLUMNS - 1);
            int by = which == WRONG ? WRONG : digit(1, roundOf(kind) - 1);
            if (by == WRONG) {
                return WRONG;
            }
            result.toMove(kind, which, by);
            return 1;
        }

        private int shelfItem(State shelves, Permutation result) {
            place++;
            int shelf = text.signAt(place) - '0';
            if (!shelves.isFilled(shelf)) {
                return WRONG;
            }
            place++;
            result.toCopy(shelves.onShelf(shelf));
            return 1;
        }

        private int repeatedItem(int depth, State shelves, Permutation result) {
            if (!isIndex(depth, DEEPEST)) {
                return WRONG;
            }
            place++;
            int counts = sequence(depth + 1, shelves);
            if (counts == WRONG || text.signAt(place) != ')') {
                return WRONG;
            }
            place++;
            int times = digit(2, 9);
            if (times == WRONG) {
                return WRONG;
            }
            result.toPower(sequences[depth + 1], times);
            return counts * times;
        }

        private int commutedItem(int depth, State shelves, Permutation result) {
            if (!isIndex(depth, DEEPEST)) {
                return WRONG;
            }
            place++;
            int firstCounts = sequence(depth + 1, shelves);
            if (firstCounts == WRONG || text.signAt(place) != ',') {
                return WRONG;
            }
            place++;
            firsts[depth].toCopy(sequences[depth + 1]);
            int secondCounts = sequence(depth + 1, shelves);
            if (secondCounts == WRONG || text.signAt(place) != ']') {
                return WRONG;
            }
            place++;
            result.toCommuted(firsts[depth], sequences[depth + 1], inverse);
            return 2 * (firstCounts + secondCounts);
        }
    }
}
