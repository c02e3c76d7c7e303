/** The sentences of the promises 1 to 6: a new object, turn, shift, back, scramble and logOf. */
final class MovesSentences {
    static void check() {
        newObject();
        turn();
        shift();
        back();
        scramble();
        logOf();
    }

    private static void newObject() {
        Sentences.under("Promise 1: A new object")
            .says("Creates a barrel with each sticker at home", """
                account(0) -> 32; at(0) -> 0; at(31) -> 31; where(0) -> 0; where(31) -> 31; meanAway() -> 0.0
                """)
            .says("with nothing on the shelves", """
                account(5) -> 0; goesTo(0, 0) -> throws NoSuchElementException
                cycle(1, 0) -> throws NoSuchElementException; cycleLine(2) -> throws NoSuchElementException
                forget(3) -> throws UnsupportedOperationException; use(4, 1) -> throws UnsupportedOperationException
                """)
            .says("and an empty log", """
                account(2) -> 0; logOf(0, 0) -> throws IndexOutOfBoundsException; logLine() -> 0; written -> ""
                back() -> throws UnsupportedOperationException
                """)
            .says("Creates a barrel", """
                account(3) -> 0; account(4) -> 0; account(6) -> 0; account(7) -> 0; account(1) -> 4; written -> ""
                """);
    }

    private static void turn() {
        Sentences.under("Promise 2: turn")
            .says("Turns a ring.", """
                turn(0, 1) -> 24; at(0) -> 7; at(1) -> 0; at(7) -> 6; at(8) -> 8; turn(3, 7) -> 16; at(31) -> 24
                at(24) -> 25; at(23) -> 23; turn(3, 1) -> 24; turn(0, 7) -> 32
                """)
            .says("Returns how many stickers are at home then.", """
                turn(0, 4) -> 24; turn(0, 4) -> 32; turn(0, 1) -> 24; turn(1, 1) -> 16; turn(2, 1) -> 8
                turn(3, 1) -> 0; turn(3, 7) -> 8
                """)
            .says("Throws `IndexOutOfBoundsException` if there is no such ring", """
                turn(-1, 1) -> throws IndexOutOfBoundsException; turn(4, 1) -> throws IndexOutOfBoundsException
                turn(-2147483648, 1) -> throws IndexOutOfBoundsException
                turn(2147483647, 1) -> throws IndexOutOfBoundsException
                turn(4, 0) -> throws IndexOutOfBoundsException; account(0) -> 32; account(2) -> 0; account(7) -> 0
                turn(0, 1) -> 24; turn(3, 1) -> 16
                """)
            .says("Throws `IllegalArgumentException` if it is not by 1 to 7", """
                turn(0, 0) -> throws IllegalArgumentException; turn(3, 8) -> throws IllegalArgumentException
                turn(0, -1) -> throws IllegalArgumentException
                turn(0, -2147483648) -> throws IllegalArgumentException
                turn(0, 2147483647) -> throws IllegalArgumentException; account(0) -> 32; account(2) -> 0
                account(7) -> 0; turn(0, 1) -> 24; turn(0, 7) -> 32
                """);
    }

    private static void shift() {
        Sentences.under("Promise 3: shift")
            .says("Shifts a column.", """
                shift(0, 1) -> 28; at(0) -> 24; at(8) -> 0; at(24) -> 16; at(1) -> 1; shift(7, 3) -> 24; at(31) -> 7
                at(7) -> 15; at(6) -> 6; shift(7, 1) -> 28; shift(0, 3) -> 32
                """)
            .says("Returns how many stickers are at home then.", """
                shift(0, 2) -> 28; shift(0, 2) -> 32; shift(0, 1) -> 28; shift(1, 1) -> 24; shift(2, 1) -> 20
                shift(3, 1) -> 16; shift(4, 1) -> 12; shift(5, 1) -> 8; shift(6, 1) -> 4; shift(7, 1) -> 0
                shift(7, 3) -> 4
                """)
            .says("Throws `IndexOutOfBoundsException` if there is no such column", """
                shift(-1, 1) -> throws IndexOutOfBoundsException; shift(8, 1) -> throws IndexOutOfBoundsException
                shift(-2147483648, 1) -> throws IndexOutOfBoundsException
                shift(2147483647, 1) -> throws IndexOutOfBoundsException
                shift(8, 0) -> throws IndexOutOfBoundsException; account(0) -> 32; account(2) -> 0; account(7) -> 0
                shift(0, 1) -> 28; shift(7, 1) -> 24
                """)
            .says("Throws `IllegalArgumentException` if it is not by 1 to 3", """
                shift(0, 0) -> throws IllegalArgumentException; shift(7, 4) -> throws IllegalArgumentException
                shift(0, -1) -> throws IllegalArgumentException
                shift(0, -2147483648) -> throws IllegalArgumentException
                shift(0, 2147483647) -> throws IllegalArgumentException; account(0) -> 32; account(2) -> 0
                account(7) -> 0; shift(0, 1) -> 28; shift(0, 3) -> 32
                """);
    }

    private static void back() {
        Sentences.under("Promise 4: back")
            .says("Takes the last move of the log back, by its inverse.", """
                turn(0, 1) -> 24; turn(1, 7) -> 16; shift(0, 1) -> 14; shift(7, 3) -> 12; back() -> 3
                where(31) -> 31; account(0) -> 14; back() -> 2; where(24) -> 24; account(0) -> 16; back() -> 1
                where(8) -> 8; account(0) -> 24; back() -> 0; where(7) -> 7; account(0) -> 32; account(3) -> 8
                """)
            .says("Takes the last move of the log back", """
                scramble(77, 60) -> 2; learning 0 "r01" -> 1; many 40: back() -> 0
                back() -> throws UnsupportedOperationException; account(3) -> 100; turn(0, 1) -> 0; use(0, 1) -> 0
                back() -> throws UnsupportedOperationException; turn(0, 1) -> 0; reading "r01" -> 1
                back() -> throws UnsupportedOperationException
                """)
            .says("Returns how many moves the log has then.", """
                many 41: turn(0, 1) -> 24; back() -> 39; many 38: back() -> 1; back() -> 0; account(2) -> 0
                """)
            .says("Throws `UnsupportedOperationException` if it is refused for reason 1; the reason is kept for refusal", """
                back() -> throws UnsupportedOperationException; refusal(false) -> 1; refusal(true) -> 0
                account(7) -> 0; account(3) -> 0; shift(0, 1) -> 28; back() -> 0
                paint(0, 0) -> throws UnsupportedOperationException; back() -> throws UnsupportedOperationException
                refusal(false) -> 1; refusal(true) -> 0; account(7) -> 2; account(3) -> 2
                """);
    }

    private static void scramble() {
        Sentences.under("Promise 5: scramble")
            .says("Scrambles the barrel.", """
                scramble(0, 4) -> 15; logLine() -> 12; written -> "c21c02c43r23"; account(2) -> 4; account(3) -> 4
                account(7) -> 1; undo() -> 0; reading "c21c02c43r23" -> 4; account(0) -> 15
                """)
            .says("Returns how many stickers are at home then.", """
                scramble(0, 1) -> 28; scramble(1, 1) -> 21; scramble(9999, 60) -> 0; account(0) -> 0; save() -> 0
                """)
            .says("Throws `IllegalArgumentException` if the seed or the number is out of range", """
                scramble(-1, 1) -> throws IllegalArgumentException
                scramble(10000, 1) -> throws IllegalArgumentException
                scramble(-2147483648, 1) -> throws IllegalArgumentException
                scramble(2147483647, 1) -> throws IllegalArgumentException
                scramble(0, 0) -> throws IllegalArgumentException
                scramble(0, 61) -> throws IllegalArgumentException
                scramble(0, -1) -> throws IllegalArgumentException
                scramble(0, 2147483647) -> throws IllegalArgumentException; account(0) -> 32; account(2) -> 0
                account(7) -> 0; scramble(0, 1) -> 28; scramble(9999, 1) -> 24; scramble(0, 60) -> 2
                account(3) -> 62
                """);
    }

    private static void logOf() {
        Sentences.under("Promise 6: logOf")
            .says("Returns a number of a move of the log.", """
                turn(3, 7) -> 24; shift(7, 3) -> 21; logOf(0, 0) -> 0; logOf(0, 1) -> 3; logOf(0, 2) -> 7
                logOf(1, 0) -> 1; logOf(1, 1) -> 7; logOf(1, 2) -> 3
                """)
            .says("`place`: its place, 0 for the earliest one", """
                turn(3, 1) -> 24; many 39: turn(1, 1) -> 16; logOf(0, 1) -> 3; logOf(39, 1) -> 1; turn(2, 1) -> 8
                logOf(0, 1) -> 1; logOf(39, 1) -> 2; back() -> 39; logOf(0, 1) -> 1; logOf(38, 1) -> 1
                """)
            .says("`what`: 0 for 0 if it is a turn, and 1 if it is a shift, 1 for the ring or column, 2 for by how much", """
                turn(2, 5) -> 24; shift(6, 3) -> 21; logOf(0, 0) -> 0; logOf(1, 0) -> 1; logOf(0, 1) -> 2
                logOf(1, 1) -> 6; logOf(0, 2) -> 5; logOf(1, 2) -> 3
                """)
            .says("Returns the number.", """
                turn(0, 1) -> 24; shift(0, 1) -> 21; logOf(0, 0) -> 0; logOf(0, 1) -> 0; logOf(0, 2) -> 1
                logOf(1, 1) -> 0
                """)
            .says("Throws `IndexOutOfBoundsException` if there is no such place", """
                logOf(0, 0) -> throws IndexOutOfBoundsException; turn(0, 1) -> 24
                logOf(-1, 0) -> throws IndexOutOfBoundsException; logOf(1, 0) -> throws IndexOutOfBoundsException
                logOf(0, 0) -> 0; many 40: turn(0, 1) -> 24; logOf(39, 2) -> 1
                logOf(40, 2) -> throws IndexOutOfBoundsException
                logOf(2147483647, 0) -> throws IndexOutOfBoundsException
                logOf(-2147483648, 0) -> throws IndexOutOfBoundsException
                logOf(40, 3) -> throws IndexOutOfBoundsException; back() -> 39
                logOf(39, 2) -> throws IndexOutOfBoundsException; logOf(38, 2) -> 1
                """)
            .says("Throws `IllegalArgumentException` if what is not from 0 to 2", """
                turn(3, 2) -> 24; logOf(0, -1) -> throws IllegalArgumentException
                logOf(0, 3) -> throws IllegalArgumentException
                logOf(0, -2147483648) -> throws IllegalArgumentException
                logOf(0, 2147483647) -> throws IllegalArgumentException; logOf(0, 0) -> 0; logOf(0, 2) -> 2
                """);
    }
}
