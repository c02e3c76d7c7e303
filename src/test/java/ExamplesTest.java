/** The document's examples, to the letter. */
public final class ExamplesTest {
    public static void main(String[] arguments) {
        Calls.run("turns, shifts, going back and a word", """
            turn(0, 3) -> 24; at(3) -> 0; shift(2, 1) -> 21; line(1) -> 8; logLine() -> 6; back() -> 1; back() -> 0
            account(0) -> 32; append "r01" -> 3; learn(0) -> 1; shelfOf(0, 3) -> 8; orderAgain(0) -> 8
            isEven(0, true) -> false; cycleLine(0) -> 17
            """);
        Calls.run("a commutator", """
            append "[r01,c01]" -> 9; learn(0) -> 4; shelfOf(0, 0) -> 3; shelfOf(0, 2) -> 3; use(0, -1) -> 29
            where(0) -> 7; isWell() -> true; seamShare() -> 0.5625
            """);
        Calls.run("what is refused by a new object", """
            back() -> throws UnsupportedOperationException; use(0, 1) -> throws UnsupportedOperationException
            refusal(true) -> 0; at(32) -> throws IndexOutOfBoundsException
            learn(0) -> throws IllegalArgumentException; errorPosition() -> 0
            undo() -> throws IllegalStateException; restore() -> throws IllegalStateException; meanAway() -> 0.0
            """);
        Calls.run("in doubt, too", """
            read() -> throws IllegalArgumentException; errorPosition() -> 0
            append "()2" -> 3; read() -> throws IllegalArgumentException; errorPosition() -> 1
            append "[,r11]" -> 6; read() -> throws IllegalArgumentException; errorPosition() -> 1
            """);
        Calls.end();
    }
}
