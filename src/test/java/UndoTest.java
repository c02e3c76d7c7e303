/** Promises 38 to 40: undo, save and restore. */
public final class UndoTest {
    public static void main(String[] arguments) {
        eachChange();
        latestEight();
        whatIsNoChange();
        whatStays();
        snapshot();
        Calls.end();
    }

    private static void eachChange() {
        Calls.run("38: turn, shift, back and scramble are undone", """
            undo() -> throws IllegalStateException; turn(0, 1) -> 24; undo() -> 0; account(0) -> 32; account(2) -> 0
            account(3) -> 0; shift(0, 1) -> 28; undo() -> 0; account(0) -> 32; account(3) -> 0
            turn(1, 2) -> 24; back() -> 0; undo() -> 1; where(8) -> 10; account(2) -> 1; account(3) -> 1
            logOf(0, 2) -> 2; scramble(0, 60) -> 2; account(2) -> 40; undo() -> 1; account(2) -> 1; account(3) -> 1
            logLine() -> 3; written -> "r12"; where(8) -> 10; undo() -> 0; account(0) -> 32; account(3) -> 0
            undo() -> throws IllegalStateException
            """);
        Calls.run("38: paint, read and use are undone, with the log that they emptied", """
            paint(0, 5) -> 0; turn(0, 1) -> 24; paint(0, 4) -> 5; undo() -> 2; colour(1) -> 5
            append "r11c01" -> 6; read() -> 2; account(2) -> 0; account(4) -> 1; undo() -> 2; account(0) -> 24
            account(2) -> 1; account(4) -> 0; account(6) -> 0; logOf(0, 2) -> 1
            append "r21" -> 3; learn(3) -> 1; use(3, 5) -> 16; account(2) -> 0; undo() -> 3; account(0) -> 24
            account(2) -> 1; undo() -> 2; account(5) -> 0; goesTo(3, 16) -> throws NoSuchElementException
            undo() -> 1; undo() -> 0; colour(0) -> 0
            """);
        Calls.run("38: learn, join, invert, commute and forget are undone", """
            append "r01" -> 3; learn(0) -> 1; append "c01" -> 3; learn(1) -> 1; append "r11" -> 3; learn(0) -> 1
            goesTo(0, 0) -> 0; undo() -> 2; goesTo(0, 0) -> 1; goesTo(0, 8) -> 8
            join(0, 1, 1) -> 11; undo() -> 2; shelfOf(1, 0) -> 4; invert(0, 0) -> 8; undo() -> 2; goesTo(0, 0) -> 1
            invert(0, 4) -> 8; undo() -> 2; goesTo(4, 0) -> throws NoSuchElementException
            commute(0, 1, 0) -> 3; undo() -> 2; goesTo(0, 0) -> 1; forget(0) -> 1; undo() -> 2; goesTo(0, 0) -> 1
            account(5) -> 2; undo() -> 1; undo() -> 0; account(5) -> 0
            """);
    }

    private static void latestEight() {
        Calls.run("38: the latest 8 can be undone", """
            many 7: turn(0, 1) -> 24; account(7) -> 7; turn(0, 1) -> 32; account(7) -> 8; turn(0, 1) -> 24
            account(7) -> 8; turn(0, 1) -> 24; account(7) -> 8; where(0) -> 2
            undo() -> 7; where(0) -> 1; undo() -> 6; where(0) -> 0; many 6: undo() -> 0; where(0) -> 2
            account(2) -> 2; account(3) -> 2; undo() -> throws IllegalStateException; where(0) -> 2
            turn(0, 6) -> 32; account(7) -> 1; undo() -> 0; where(0) -> 2
            """);
        Calls.run("38: the log that was dropped comes back", """
            many 40: turn(0, 1) -> 32; logOf(0, 2) -> 1; turn(0, 7) -> 24; many 39: turn(0, 7) -> 32
            logOf(0, 2) -> 7; undo() -> 7; logOf(0, 2) -> 1; logOf(1, 2) -> 7; logOf(39, 2) -> 7; account(2) -> 40
            """);
    }

    private static void whatIsNoChange() {
        Calls.run("38: what is looked at, or fails, is no change", """
            turn(0, 1) -> 24; line(0) -> 8; logLine() -> 3; seams() -> 32; fewest(0, 9) -> 2; isWell() -> true
            append "r0" -> 2; save() -> 24; account(7) -> 1; read() -> throws IllegalArgumentException
            turn(0, 8) -> throws IllegalArgumentException; shift(0, 4) -> throws IllegalArgumentException
            scramble(0, 0) -> throws IllegalArgumentException; paint(0, 0) -> throws UnsupportedOperationException
            use(0, 1) -> throws UnsupportedOperationException; join(0, 0, 0) -> throws UnsupportedOperationException
            invert(0, 0) -> throws UnsupportedOperationException
            commute(0, 0, 0) -> throws UnsupportedOperationException
            forget(0) -> throws UnsupportedOperationException; learn(0) -> throws IllegalArgumentException
            account(7) -> 1; undo() -> 0; account(0) -> 32; back() -> throws UnsupportedOperationException
            account(7) -> 0
            """);
        Calls.run("38: what changes nothing that is seen is a change", """
            append "r04r04" -> 6; learn(0) -> 2; use(0, 1) -> 32; join(0, 0, 0) -> 0; invert(0, 0) -> 0
            account(7) -> 4; undo() -> 3; undo() -> 2; undo() -> 1; undo() -> 0
            """);
    }

    private static void whatStays() {
        Calls.run("38 and 40: the input, the line, the error position and the reason stay", """
            turn(0, 1) -> 24; save() -> 24; logLine() -> 3; append "x" -> 1; read() -> throws IllegalArgumentException
            paint(0, 0) -> throws UnsupportedOperationException; append "r11" -> 3; undo() -> 0; account(6) -> 3
            written -> "r01"; errorPosition() -> 0; refusal(false) -> 4; restore() -> 24; account(6) -> 3
            written -> "r01"; errorPosition() -> 0; refusal(true) -> 0; read() -> 1; account(0) -> 16
            undo() -> 0; account(6) -> 0; account(0) -> 24
            """);
    }

    private static void snapshot() {
        Calls.run("39 and 40: all that changes can change is as it was", """
            restore() -> throws IllegalStateException; turn(0, 3) -> 24; paint(0, 5) -> 0; append "r21" -> 3
            learn(1) -> 1; append "r21" -> 3; read() -> 1; shift(0, 1) -> 14; save() -> 14; account(7) -> 5
            use(1, 2) -> 14; paint(0, 4) -> 5; forget(1) -> 0; turn(1, 1) -> 7; append "c01" -> 3; read() -> 1
            restore() -> 14; account(0) -> 14; account(2) -> 1; account(3) -> 2; account(4) -> 1; account(5) -> 1
            account(7) -> 0; logOf(0, 0) -> 1; colour(3) -> 5; goesTo(1, 16) -> 17
            undo() -> throws IllegalStateException
            """);
        Calls.run("40: the snapshot stays, until there is another one", """
            turn(0, 1) -> 24; save() -> 24; turn(1, 1) -> 16; restore() -> 24; turn(2, 1) -> 16; undo() -> 0
            account(0) -> 24; turn(2, 1) -> 16; restore() -> 24; restore() -> 24; account(7) -> 0
            turn(3, 1) -> 16; save() -> 16; account(7) -> 1; undo() -> 0; account(0) -> 24; restore() -> 16
            account(2) -> 2; account(3) -> 2; turn(0, 7) -> 24; restore() -> 16
            """);
        Calls.run("39: a snapshot of a new object", """
            save() -> 32; scramble(5, 60) -> 2; append "r01" -> 3; learn(0) -> 1; restore() -> 32; account(2) -> 0
            account(3) -> 0; account(5) -> 0; seams() -> 32; meanAway() -> 0.0
            """);
    }
}
