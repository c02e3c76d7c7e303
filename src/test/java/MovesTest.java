/** Promises 1 to 6: a new object, turn, shift, back, scramble and logOf. */
public final class MovesTest {
    public static void main(String[] arguments) {
        newObject();
        turn();
        shift();
        wrongMoves();
        back();
        scramble();
        log();
        Calls.end();
    }

    private static void newObject() {
        StringBuilder calls = new StringBuilder();
        for (int slot = 0; slot < 32; slot++) {
            calls.append("at(" + slot + ") -> " + slot + "\nwhere(" + slot + ") -> " + slot + "\n");
            calls.append("colour(" + slot + ") -> " + slot / 8 + "\n");
        }
        for (int shelf = 0; shelf < 5; shelf++) {
            calls.append("goesTo(" + shelf + ", 0) -> throws NoSuchElementException\n");
        }
        Calls.run("1: a new object", calls.toString());
        Calls.run("1: the accounts of a new object", """
            account(0) -> 32; account(1) -> 4; account(2) -> 0; account(3) -> 0
            account(4) -> 0; account(5) -> 0; account(6) -> 0; account(7) -> 0
            written -> ""; logLine() -> 0
            """);
    }

    private static void turn() {
        Calls.run("2: turn goes to the right, round the ring", """
            turn(0, 3) -> 24
            at(0) -> 5; at(1) -> 6; at(2) -> 7; at(3) -> 0; at(7) -> 4; at(8) -> 8; at(31) -> 31
            turn(3, 7) -> 16; at(31) -> 24; at(24) -> 25; at(30) -> 31; at(23) -> 23; where(24) -> 31
            turn(1, 4) -> 8; where(8) -> 12; where(12) -> 8; turn(1, 4) -> 16; turn(2, 1) -> 8; at(16) -> 23
            turn(0, 5) -> 16; turn(3, 1) -> 24; turn(2, 7) -> 32
            logLine() -> 24; written -> "r03r37r14r14r21r05r31r27"
            """);
    }

    private static void shift() {
        Calls.run("3: shift goes down, round the column", """
            shift(7, 3) -> 28; at(31) -> 7; at(7) -> 15; at(15) -> 23; at(23) -> 31; at(6) -> 6; where(7) -> 31
            shift(0, 1) -> 24; at(0) -> 24; at(8) -> 0; at(16) -> 8; at(24) -> 16
            shift(3, 2) -> 20; at(3) -> 19; at(19) -> 3; at(11) -> 27
            shift(3, 2) -> 24; shift(0, 3) -> 28; shift(7, 1) -> 32
            logLine() -> 18; written -> "c73c01c32c32c03c71"
            account(3) -> 6; account(7) -> 6
            """);
    }

    private static void wrongMoves() {
        Calls.run("2 and 3: what is no move", """
            turn(-1, 1) -> throws IndexOutOfBoundsException; turn(4, 1) -> throws IndexOutOfBoundsException
            turn(4, 0) -> throws IndexOutOfBoundsException; turn(-2147483648, 8) -> throws IndexOutOfBoundsException
            turn(0, 0) -> throws IllegalArgumentException; turn(3, 8) -> throws IllegalArgumentException
            turn(0, -1) -> throws IllegalArgumentException; turn(0, 2147483647) -> throws IllegalArgumentException
            shift(-1, 1) -> throws IndexOutOfBoundsException; shift(8, 1) -> throws IndexOutOfBoundsException
            shift(8, 4) -> throws IndexOutOfBoundsException; shift(2147483647, 0) -> throws IndexOutOfBoundsException
            shift(0, 0) -> throws IllegalArgumentException; shift(7, 4) -> throws IllegalArgumentException
            shift(7, -1) -> throws IllegalArgumentException; shift(0, -2147483648) -> throws IllegalArgumentException
            account(0) -> 32; account(2) -> 0; account(3) -> 0; account(7) -> 0
            turn(3, 1) -> 24; shift(7, 1) -> 21
            """);
    }

    private static void back() {
        Calls.run("4: back takes the last moves back, one by one", """
            turn(0, 3) -> 24; shift(2, 1) -> 21; turn(1, 7) -> 14
            back() -> 2; account(0) -> 21; back() -> 1; account(0) -> 24; logLine() -> 3; written -> "r03"
            shift(5, 3) -> 21; back() -> 1; back() -> 0; account(0) -> 32
            account(2) -> 0; account(3) -> 8; account(7) -> 8
            back() -> throws UnsupportedOperationException; refusal(false) -> 1; refusal(true) -> 0
            account(3) -> 8; account(0) -> 32
            """);
        Calls.run("4: what use and read emptied is not taken back", """
            turn(0, 1) -> 24; append "r11" -> 3; read() -> 1; back() -> throws UnsupportedOperationException
            turn(0, 1) -> 16; append "r21" -> 3; learn(0) -> 1; account(2) -> 1; use(0, 1) -> 8
            account(2) -> 0; back() -> throws UnsupportedOperationException
            """);
    }

    private static void scramble() {
        Calls.run("5: scramble by a seed", """
            scramble(0, 4) -> 15; logLine() -> 12; written -> "c21c02c43r23"; account(3) -> 4; account(7) -> 1
            back() -> 3; back() -> 2; back() -> 1; back() -> 0; account(0) -> 32
            scramble(9999, 3) -> 14; logLine() -> 9; written -> "c72r32r05"; account(3) -> 11
            """);
        Calls.run("5: a value that becomes 0", """
            scramble(5524, 16) -> 0; logOf(15, 0) -> 0; logOf(15, 1) -> 0; logOf(15, 2) -> 1
            """);
        Calls.run("5: what is no scramble", """
            scramble(-1, 1) -> throws IllegalArgumentException; scramble(10000, 1) -> throws IllegalArgumentException
            scramble(0, 0) -> throws IllegalArgumentException; scramble(0, 61) -> throws IllegalArgumentException
            scramble(0, -1) -> throws IllegalArgumentException
            scramble(2147483647, 2147483647) -> throws IllegalArgumentException
            account(0) -> 32; account(2) -> 0; account(7) -> 0; scramble(9999, 1) -> 28; scramble(0, 1) -> 24
            """);
    }

    private static void log() {
        Calls.run("6: logOf tells kind, ring or column, and by how much", """
            turn(3, 7) -> 24; shift(7, 3) -> 21
            logOf(0, 0) -> 0; logOf(0, 1) -> 3; logOf(0, 2) -> 7; logOf(1, 0) -> 1; logOf(1, 1) -> 7; logOf(1, 2) -> 3
            logOf(2, 0) -> throws IndexOutOfBoundsException; logOf(-1, 0) -> throws IndexOutOfBoundsException
            logOf(2, 3) -> throws IndexOutOfBoundsException; logOf(0, 3) -> throws IllegalArgumentException
            logOf(1, -1) -> throws IllegalArgumentException
            """);
        Calls.run("6: the log has the latest 40 moves", """
            many 40: turn(0, 1) -> 32; account(2) -> 40; logOf(0, 0) -> 0; shift(4, 2) -> 28; account(2) -> 40
            logOf(39, 0) -> 1; logOf(39, 1) -> 4; logOf(39, 2) -> 2; logOf(38, 0) -> 0
            logOf(40, 0) -> throws IndexOutOfBoundsException; back() -> 39; many 39: back() -> 0
            account(0) -> 24; where(0) -> 1; back() -> throws UnsupportedOperationException
            """);
        Calls.run("6: a scramble of 60 leaves its last 40", """
            scramble(0, 60) -> 2; account(2) -> 40; account(3) -> 60; logLine() -> 120
            logOf(0, 0) -> 0; logOf(0, 1) -> 3; logOf(0, 2) -> 5; logOf(1, 0) -> 1; logOf(39, 2) -> 7
            """);
    }
}
