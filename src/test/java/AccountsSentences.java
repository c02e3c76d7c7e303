/** The sentences of the promises 33 to 40: refusal, account, isWell, meanAway, seamShare, undo, save and restore. */
final class AccountsSentences {
    static void check() {
        refusal();
        account();
        isWell();
        meanAway();
        seamShare();
        undo();
        save();
        restore();
    }

    private static void refusal() {
        Sentences.under("Promise 33: refusal")
            .says("Returns the reason of the latest refusal.", """
                back() -> throws UnsupportedOperationException; refusal(false) -> 1
                reading "(((r01)9)9)9" -> throws UnsupportedOperationException; refusal(false) -> 2
                forget(4) -> throws UnsupportedOperationException; refusal(false) -> 3
                paint(31, 3) -> throws UnsupportedOperationException; refusal(false) -> 4; refusal(false) -> 4
                turn(0, 1) -> 24; turn(0, 8) -> throws IllegalArgumentException; reading "x" -> wrong at 0
                goesTo(0, 0) -> throws NoSuchElementException; refusal(false) -> 4
                invert(0, 0) -> throws UnsupportedOperationException; refusal(false) -> 3
                """)
            .says("`isDetail`: true for the detail, false for the reason", """
                paint(31, 3) -> throws UnsupportedOperationException; refusal(true) -> 3; refusal(false) -> 4
                use(2, 1) -> throws UnsupportedOperationException; refusal(true) -> 2; refusal(false) -> 3
                """)
            .says("Returns the reason or the detail.", """
                back() -> throws UnsupportedOperationException; refusal(true) -> 0
                reading "(((r01)9)9)9" -> throws UnsupportedOperationException; refusal(true) -> 200
                forget(4) -> throws UnsupportedOperationException; refusal(true) -> 4
                paint(31, 3) -> throws UnsupportedOperationException; refusal(true) -> 3
                forget(0) -> throws UnsupportedOperationException; refusal(true) -> 0
                """)
            .says("Throws `NoSuchElementException` if nothing was refused", """
                refusal(false) -> throws NoSuchElementException; refusal(true) -> throws NoSuchElementException
                turn(4, 1) -> throws IndexOutOfBoundsException; turn(0, 8) -> throws IllegalArgumentException
                reading "x" -> wrong at 0; undo() -> throws IllegalStateException
                goesTo(0, 0) -> throws NoSuchElementException; use(0, 100) -> throws IllegalArgumentException
                use(5, 1) -> throws IndexOutOfBoundsException; paint(0, 6) -> throws IllegalArgumentException
                refusal(false) -> throws NoSuchElementException; refusal(true) -> throws NoSuchElementException
                back() -> throws UnsupportedOperationException; refusal(false) -> 1
                """);
    }

    private static void account() {
        Sentences.under("Promise 34: account")
            .says("0 for the stickers at home", """
                account(0) -> 32; turn(0, 1) -> 24; account(0) -> 24; turn(1, 1) -> 16; turn(2, 1) -> 8
                turn(3, 1) -> 0; account(0) -> 0
                """)
            .says("1 for the rings that are done", """
                account(1) -> 4; paint(31, 5) -> 3; account(1) -> 3; shift(0, 1) -> 28; account(1) -> 0
                """)
            .says("2 for the moves of the log", """
                account(2) -> 0; many 40: turn(0, 1) -> 32; account(2) -> 40; turn(0, 1) -> 24; account(2) -> 40
                back() -> 39; account(2) -> 39; reading "r01" -> 1; account(2) -> 0
                """)
            .says("3 for the turns and shifts done by turn, shift, scramble and back so far", """
                account(3) -> 0; turn(0, 1) -> 24; account(3) -> 1; shift(0, 1) -> 21; account(3) -> 2
                scramble(0, 60) -> 1; account(3) -> 62; back() -> 39; account(3) -> 63; reading "r01" -> 1
                learning 0 "r01" -> 1; use(0, 1) -> 2; turn(0, 8) -> throws IllegalArgumentException
                back() -> throws UnsupportedOperationException; account(3) -> 63
                """)
            .says("4 for the sequences read so far", """
                account(4) -> 0; reading "r01c01" -> 2; account(4) -> 1; reading "x" -> wrong at 0
                reading "(((r01)9)9)9" -> throws UnsupportedOperationException; account(4) -> 1
                learning 0 "r01" -> 1; use(0, 1) -> 21; account(4) -> 1; reading "s0" -> 1; account(4) -> 2
                """)
            .says("5 for the shelves that have something", """
                account(5) -> 0; learning 4 "r04r04" -> 2; account(5) -> 1; learning 4 "r01" -> 1; account(5) -> 1
                invert(4, 0) -> 8; join(0, 0, 1) -> 8; commute(0, 1, 2) -> 0; invert(0, 3) -> 8; account(5) -> 5
                forget(4) -> 4; account(5) -> 4
                """)
            .says("6 for the characters in the input", """
                account(6) -> 0; append "r01" -> 3; account(6) -> 3; many 57: append(32) -> 60
                append(32) -> throws IllegalStateException; account(6) -> 60
                read() -> throws IllegalArgumentException; account(6) -> 0
                """)
            .says("7 for the changes that can be undone", """
                account(7) -> 0; turn(0, 1) -> 24; account(7) -> 1; many 8: turn(0, 1) -> 24; account(7) -> 8
                undo() -> 7; account(7) -> 7; save() -> 32; account(7) -> 7; restore() -> 32; account(7) -> 0
                """)
            .says("Returns the account.", """
                turn(0, 1) -> 24; account(0) -> 24; account(1) -> 4; account(2) -> 1; account(3) -> 1
                account(4) -> 0; account(5) -> 0; account(6) -> 0; account(7) -> 1
                """)
            .says("Returns an account.", """
                scramble(9999, 60) -> 0; account(0) -> 0; account(1) -> 0; account(2) -> 40; account(3) -> 60
                account(7) -> 1
                """)
            .says("Throws `IllegalArgumentException` if what is not from 0 to 7", """
                account(-1) -> throws IllegalArgumentException; account(8) -> throws IllegalArgumentException
                account(-2147483648) -> throws IllegalArgumentException
                account(2147483647) -> throws IllegalArgumentException; account(0) -> 32; account(7) -> 0
                """);
    }

    private static void isWell() {
        Sentences.under("Promise 35: isWell")
            .says("each sticker is in one slot, and is where it is told to be", """
                isWell() -> true; scramble(9999, 60) -> 0; isWell() -> true; back() -> 39; isWell() -> true
                reading "[r01,c01]'" -> 4; isWell() -> true; undo() -> 2; isWell() -> true
                """)
            .says("and what is on a shelf, and then its inverse, moves nothing", """
                learning 0 "r04r04" -> 2; isWell() -> true; learning 4 "r35r23r17c71r07" -> 5; isWell() -> true
                invert(4, 1) -> 32; join(4, 4, 2) -> 32; commute(4, 2, 3) -> 0; isWell() -> true; forget(4) -> 4
                isWell() -> true; goesTo(1, 31) -> 20
                """)
            .says("Returns whether this is so.", """
                isWell() -> true; save() -> 32; scramble(0, 60) -> 2; restore() -> 32; isWell() -> true
                paint(0, 5) -> 0; isWell() -> true; account(7) -> 1
                """);
    }

    private static void meanAway() {
        Sentences.under("Promise 36: meanAway")
            .says("Returns the mean distance of the stickers from home: "
                + "the sum of the fewest moves to their homes divided by 32", """
                meanAway() -> 0.0; turn(0, 7) -> 24; meanAway() -> 0.25; turn(1, 4) -> 16; turn(2, 1) -> 8
                turn(3, 1) -> 0; meanAway() -> 1.0; shift(0, 3) -> 0; meanAway() -> 1.125
                reading "c11c21c31c41c51c61c71" -> 7; meanAway() -> 2.0
                """)
            .says("both as doubles", """
                shift(0, 1) -> 28; meanAway() -> 0.125; reading "[r01,c01]" -> 4; meanAway() -> 0.15625
                """)
            .says("Returns the mean.", """
                scramble(9999, 60) -> 0; meanAway() -> 1.71875; reading "[r01,c01]" -> 4; meanAway() -> 1.6875
                """);
    }

    private static void seamShare() {
        Sentences.under("Promise 37: seamShare")
            .says("Returns the share of the seams among all pairs of slots beside one another", """
                seamShare() -> 0.5; paint(9, 5) -> 1; seamShare() -> 0.53125; seams() -> 34
                """)
            .says("both numbers as floats", """
                reading "[r01,c01]" -> 4; seams() -> 34; seamShare() -> 0.53125; paint(0, 5) -> 0
                seamShare() -> 0.546875
                """)
            .says("Returns the share.", SlotsSentences.oneColour() + "seamShare() -> 0.0\n")
            .says("Returns the share.", SlotsSentences.everySecond() + "seamShare() -> 1.0\n");
    }

    private static void undo() {
        Sentences.under("Promise 38: undo")
            .says("Undoes the latest change.", """
                turn(0, 1) -> 24; shift(7, 1) -> 21; undo() -> 1; where(7) -> 0; account(2) -> 1; account(3) -> 1
                undo() -> 0; account(0) -> 32; scramble(0, 60) -> 2; undo() -> 0; account(0) -> 32; account(2) -> 0
                account(3) -> 0; turn(0, 1) -> 24; back() -> 0; undo() -> 1; where(0) -> 1; account(2) -> 1
                account(3) -> 1; paint(0, 5) -> 0; undo() -> 1; colour(1) -> 0
                """)
            .says("Undoes the latest change", """
                turn(1, 1) -> 24; reading "r01" -> 1; undo() -> 1; account(0) -> 24; account(2) -> 1
                account(4) -> 0; learning 0 "r01" -> 1; undo() -> 1; account(5) -> 0; learning 0 "r01" -> 1
                use(0, 1) -> 16; undo() -> 2; account(0) -> 24; account(2) -> 1; join(0, 0, 0) -> 8; undo() -> 2
                goesTo(0, 0) -> 1; invert(0, 4) -> 8; undo() -> 2; goesTo(4, 0) -> throws NoSuchElementException
                commute(0, 0, 0) -> 0; undo() -> 2; goesTo(0, 0) -> 1; forget(0) -> 0; undo() -> 2
                goesTo(0, 0) -> 1; reading "c01" -> 1; shift(5, 2) -> 18; undo() -> 3; undo() -> 2; account(2) -> 1
                logOf(0, 0) -> 0; logOf(0, 1) -> 1
                """)
            .says("Returns the number of changes that can still be undone.", """
                turn(0, 1) -> 24; undo() -> 0; many 9: turn(0, 1) -> 24; undo() -> 7; many 6: undo() -> 1
                undo() -> 0; where(0) -> 1
                """)
            .says("Throws `IllegalStateException` if no change can be undone", """
                undo() -> throws IllegalStateException; turn(0, 1) -> 24; undo() -> 0
                undo() -> throws IllegalStateException; many 9: turn(0, 1) -> 24; many 8: undo() -> 0
                undo() -> throws IllegalStateException; where(0) -> 1; save() -> 24; turn(0, 1) -> 24
                restore() -> 24; undo() -> throws IllegalStateException
                turn(0, 8) -> throws IllegalArgumentException; undo() -> throws IllegalStateException
                account(7) -> 0
                """);
    }

    private static void save() {
        Sentences.under("Promise 39: save")
            .says("Takes a snapshot of what changes can change", """
                turn(0, 1) -> 24; paint(0, 5) -> 0; learning 4 "r01" -> 1; reading "c01" -> 1; turn(1, 1) -> 14
                save() -> 14; paint(0, 4) -> 5; forget(4) -> 0; reading "c01" -> 1; shift(3, 1) -> 12
                restore() -> 14; line(0) -> 8; written -> "35000000"; account(2) -> 1; account(3) -> 2
                account(4) -> 1; account(5) -> 1; goesTo(4, 0) -> 1; logOf(0, 0) -> 0; logOf(0, 1) -> 1
                """)
            .says("in place of an earlier one", """
                save() -> 32; turn(0, 1) -> 24; save() -> 24; turn(1, 1) -> 16; restore() -> 24; where(0) -> 1
                where(8) -> 8; account(2) -> 1
                """)
            .says("Takes a snapshot", """
                many 7: turn(0, 1) -> 24; save() -> 24; account(7) -> 7; undo() -> 6; account(7) -> 6
                restore() -> 24; account(2) -> 7
                """)
            .says("Returns the stickers at home.", """
                save() -> 32; turn(0, 1) -> 24; save() -> 24; scramble(9999, 60) -> 0; save() -> 0
                """);
    }

    private static void restore() {
        Sentences.under("Promise 40: restore")
            .says("Makes everything that changes can change as it is in the snapshot", """
                turn(2, 1) -> 24; save() -> 24; reading "r01" -> 1; scramble(9999, 60) -> 0; paint(0, 5) -> 0
                learning 0 "r01" -> 1; restore() -> 24; at(0) -> 0; at(31) -> 31; colour(0) -> 0; account(2) -> 1
                logOf(0, 1) -> 2; account(3) -> 1; account(4) -> 0; account(5) -> 0; account(7) -> 0
                """)
            .says("which stays", """
                turn(0, 1) -> 24; save() -> 24; turn(1, 1) -> 16; restore() -> 24; turn(2, 1) -> 16
                paint(31, 5) -> 3; learning 0 "r01" -> 1; restore() -> 24; restore() -> 24; colour(31) -> 3
                account(5) -> 0; account(2) -> 1; logOf(0, 1) -> 0; where(16) -> 16
                """)
            .says("Returns the stickers at home.", """
                save() -> 32; turn(0, 1) -> 24; restore() -> 32; scramble(9999, 60) -> 0; save() -> 0; back() -> 39
                restore() -> 0
                """)
            .says("Throws `IllegalStateException` if there is no snapshot", """
                restore() -> throws IllegalStateException; turn(0, 1) -> 24
                restore() -> throws IllegalStateException; account(0) -> 24; account(7) -> 1; undo() -> 0
                save() -> 32; restore() -> 32
                """);
    }
}
