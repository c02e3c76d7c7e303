/** The sentences of the promises 7 to 13: at, where, paint, colour, isDone, seams and fewest. */
final class SlotsSentences {
    static void check() {
        at();
        where();
        paint();
        colour();
        isDone();
        seams();
        fewest();
    }

    private static void at() {
        Sentences.under("Promise 7: at")
            .says("Returns the sticker in a slot.", """
                turn(0, 1) -> 24; at(0) -> 7; at(7) -> 6; shift(7, 1) -> 21; at(7) -> 31; at(31) -> 23; at(15) -> 6
                """)
            .says("Returns the sticker.", """
                at(0) -> 0; at(31) -> 31; turn(3, 1) -> 24; shift(0, 1) -> 21; at(0) -> 31; at(24) -> 16
                """)
            .says("Throws `IndexOutOfBoundsException` if there is no such slot", """
                at(-1) -> throws IndexOutOfBoundsException; at(32) -> throws IndexOutOfBoundsException
                at(-2147483648) -> throws IndexOutOfBoundsException
                at(2147483647) -> throws IndexOutOfBoundsException; at(0) -> 0; at(31) -> 31
                """);
    }

    private static void where() {
        Sentences.under("Promise 8: where")
            .says("Returns the slot of a sticker.", """
                turn(0, 1) -> 24; where(7) -> 0; where(6) -> 7; shift(7, 1) -> 21; where(6) -> 15; where(31) -> 7
                where(23) -> 31
                """)
            .says("Returns the slot.", """
                where(0) -> 0; where(31) -> 31; turn(3, 1) -> 24; shift(0, 1) -> 21; where(31) -> 0; where(24) -> 25
                """)
            .says("Throws `IndexOutOfBoundsException` if there is no such sticker", """
                where(-1) -> throws IndexOutOfBoundsException; where(32) -> throws IndexOutOfBoundsException
                where(-2147483648) -> throws IndexOutOfBoundsException
                where(2147483647) -> throws IndexOutOfBoundsException; where(0) -> 0; where(31) -> 31
                """);
    }

    private static void paint() {
        Sentences.under("Promise 9: paint")
            .says("Gives a sticker a colour.", """
                turn(0, 1) -> 24; paint(0, 5) -> 0; colour(1) -> 5; colour(0) -> 0; paint(31, 0) -> 3
                colour(31) -> 0; colour(30) -> 3; account(0) -> 24; account(2) -> 1; account(3) -> 1
                account(7) -> 3
                """)
            .says("Returns the colour before.", """
                paint(0, 5) -> 0; paint(0, 0) -> 5; paint(31, 0) -> 3; paint(31, 5) -> 0; paint(31, 3) -> 5
                """)
            .says("Throws `IndexOutOfBoundsException` if there is no such sticker", """
                paint(-1, 5) -> throws IndexOutOfBoundsException; paint(32, 5) -> throws IndexOutOfBoundsException
                paint(-2147483648, 5) -> throws IndexOutOfBoundsException
                paint(2147483647, 5) -> throws IndexOutOfBoundsException
                paint(32, 6) -> throws IndexOutOfBoundsException; account(7) -> 0; paint(0, 5) -> 0
                paint(31, 5) -> 3
                """)
            .says("Throws `IllegalArgumentException` if the colour is out of range", """
                paint(0, -1) -> throws IllegalArgumentException; paint(0, 6) -> throws IllegalArgumentException
                paint(0, -2147483648) -> throws IllegalArgumentException
                paint(0, 2147483647) -> throws IllegalArgumentException; account(7) -> 0; colour(0) -> 0
                refusal(false) -> throws NoSuchElementException; paint(0, 5) -> 0; paint(0, 0) -> 5
                """)
            .says("Throws `UnsupportedOperationException` if it is refused for reason 4; the reason is kept for refusal", """
                paint(0, 0) -> throws UnsupportedOperationException; refusal(false) -> 4; refusal(true) -> 0
                back() -> throws UnsupportedOperationException; paint(31, 3) -> throws UnsupportedOperationException
                refusal(false) -> 4; refusal(true) -> 3; paint(31, 5) -> 3
                paint(31, 5) -> throws UnsupportedOperationException; refusal(true) -> 5; paint(31, 3) -> 5
                account(7) -> 2
                """);
    }

    private static void colour() {
        Sentences.under("Promise 10: colour")
            .says("Returns the colour that is in a slot.", """
                shift(0, 1) -> 28; colour(0) -> 3; colour(8) -> 0; colour(24) -> 2; paint(0, 5) -> 0; colour(0) -> 3
                colour(8) -> 5
                """)
            .says("Returns the colour.", """
                colour(0) -> 0; colour(31) -> 3; paint(31, 5) -> 3; paint(24, 0) -> 3; colour(31) -> 5
                colour(24) -> 0
                """)
            .says("Throws `IndexOutOfBoundsException` if there is no such slot", """
                colour(-1) -> throws IndexOutOfBoundsException; colour(32) -> throws IndexOutOfBoundsException
                colour(-2147483648) -> throws IndexOutOfBoundsException
                colour(2147483647) -> throws IndexOutOfBoundsException; colour(0) -> 0; colour(31) -> 3
                """);
    }

    private static void isDone() {
        Sentences.under("Promise 11: isDone")
            .says("Tells whether a ring is done: whether all its slots have one colour.", """
                isDone(0) -> true; isDone(3) -> true; turn(3, 1) -> 24; isDone(3) -> true; paint(24, 5) -> 3
                isDone(3) -> false; paint(24, 3) -> 5; isDone(3) -> true; paint(31, 5) -> 3; isDone(3) -> false
                paint(31, 3) -> 5; paint(30, 5) -> 3; isDone(3) -> false; isDone(2) -> true
                """)
            .says("whether all its slots have one colour", """
                shift(7, 1) -> 28; isDone(0) -> false; isDone(3) -> false; paint(31, 0) -> 3; isDone(0) -> true
                paint(7, 1) -> 0; isDone(1) -> true; paint(0, 1) -> 0; isDone(0) -> false
                """)
            .says("Returns whether it is.", """
                paint(0, 5) -> 0; paint(1, 5) -> 0; paint(2, 5) -> 0; paint(3, 5) -> 0; paint(4, 5) -> 0
                paint(5, 5) -> 0; paint(6, 5) -> 0; isDone(0) -> false; paint(7, 5) -> 0; isDone(0) -> true
                """)
            .says("Throws `IndexOutOfBoundsException` if there is no such ring", """
                isDone(-1) -> throws IndexOutOfBoundsException; isDone(4) -> throws IndexOutOfBoundsException
                isDone(-2147483648) -> throws IndexOutOfBoundsException
                isDone(2147483647) -> throws IndexOutOfBoundsException; isDone(0) -> true; isDone(3) -> true
                """);
    }

    private static void seams() {
        Sentences.under("Promise 12: seams")
            .says("Returns how many pairs of slots beside one another, in a ring or a column", """
                seams() -> 32; paint(9, 5) -> 1; seams() -> 34; paint(10, 5) -> 1; seams() -> 34; paint(17, 5) -> 2
                seams() -> 35
                """)
            .says("the last and the first one of each too", """
                paint(8, 5) -> 1; seams() -> 34; paint(15, 5) -> 1; seams() -> 34; undo() -> 1; undo() -> 0
                paint(1, 5) -> 0; seams() -> 34; paint(25, 5) -> 3; seams() -> 35; paint(0, 5) -> 0; seams() -> 35
                """)
            .says("Returns how many.", """
                learning 0 "r04c02r24c12" -> 4; use(0, 1) -> 12; seams() -> 42; scramble(77, 60) -> 0; seams() -> 45
                """)
            .says("have different colours", oneColour() + "seams() -> 0; paint(31, 4) -> 5; seams() -> 4\n")
            .says("have different colours", everySecond() + "seams() -> 64\n");
    }

    private static void fewest() {
        Sentences.under("Promise 13: fewest")
            .says("Returns the fewest moves, turns and shifts, that bring what is in a slot to another one", """
                fewest(0, 1) -> 1; fewest(0, 7) -> 1; fewest(24, 28) -> 1; fewest(0, 8) -> 1; fewest(31, 7) -> 1
                fewest(0, 9) -> 2; fewest(0, 31) -> 2; fewest(31, 0) -> 2; fewest(7, 8) -> 2; fewest(8, 7) -> 2
                """)
            .says("whatever else they move", """
                scramble(0, 60) -> 2; fewest(0, 31) -> 2; fewest(0, 4) -> 1; fewest(5, 5) -> 0; fewest(1, 8) -> 2
                fewest(0, 7) -> 1; fewest(0, 24) -> 1; fewest(2, 3) -> 1; account(7) -> 1
                """)
            .says("`other`: the other slot, or the same", """
                fewest(0, 0) -> 0; fewest(31, 31) -> 0; fewest(12, 12) -> 0
                """)
            .says("Returns how many.", """
                fewest(8, 8) -> 0; fewest(8, 15) -> 1; fewest(8, 0) -> 1; fewest(8, 7) -> 2
                """)
            .says("Throws `IndexOutOfBoundsException` if there is no such slot, for either", """
                fewest(-1, 0) -> throws IndexOutOfBoundsException; fewest(32, 0) -> throws IndexOutOfBoundsException
                fewest(0, -1) -> throws IndexOutOfBoundsException; fewest(0, 32) -> throws IndexOutOfBoundsException
                fewest(32, 32) -> throws IndexOutOfBoundsException
                fewest(-2147483648, 0) -> throws IndexOutOfBoundsException
                fewest(0, 2147483647) -> throws IndexOutOfBoundsException; fewest(0, 31) -> 2; fewest(31, 0) -> 2
                """);
    }

    static String oneColour() {
        StringBuilder calls = new StringBuilder();
        for (int sticker = 0; sticker < 32; sticker++) {
            calls.append(paint(sticker));
        }
        return calls.toString();
    }

    /** No slot then has the colour of one beside it. */
    static String everySecond() {
        StringBuilder calls = new StringBuilder();
        for (int sticker = 0; sticker < 32; sticker++) {
            calls.append((sticker / 8 + sticker % 8) % 2 == 0 ? paint(sticker) : "");
        }
        return calls.toString();
    }

    private static String paint(int sticker) {
        return "paint(" + sticker + ", 5) -> " + sticker / 8 + "\n";
    }
}
