/** Promises 26 to 29: line, logLine, cycleLine and character. */
public final class LinesTest {
    public static void main(String[] arguments) {
        line();
        logLine();
        cycleLine();
        character();
        Calls.end();
    }

    private static void line() {
        Calls.run("26: a digit for each slot of the ring", """
            line(3) -> 8; written -> "33333333"; line(0) -> 8; written -> "00000000"
            turn(2, 2) -> 24; shift(6, 1) -> 21; paint(8, 5) -> 1; paint(15, 4) -> 1
            line(0) -> 8; written -> "00000030"; line(1) -> 8; written -> "51111104"
            line(2) -> 8; written -> "22222212"
            turn(1, 1) -> 14; written -> "22222212"; line(1) -> 8; written -> "45111110"
            """);
        Calls.run("26: there is no such ring, and the line stays", """
            line(2) -> 8; line(-1) -> throws IndexOutOfBoundsException; line(4) -> throws IndexOutOfBoundsException
            line(-2147483648) -> throws IndexOutOfBoundsException; written -> "22222222"
            """);
    }

    private static void logLine() {
        Calls.run("27: the log as a sequence, which can be read", """
            line(0) -> 8; logLine() -> 0; written -> ""; turn(3, 7) -> 24; shift(7, 3) -> 21; turn(0, 1) -> 14
            logLine() -> 9; written -> "r37c73r01"; back() -> 2; written -> "r37c73r01"; logLine() -> 6
            written -> "r37c73"; append "r37c73" -> 6; read() -> 2; logLine() -> 0; written -> ""
            """);
        Calls.run("27: the line of a full log", """
            turn(0, 7) -> 24; many 39: shift(7, 2) -> 21; logLine() -> 120; character(0) -> 'r'; character(2) -> '7'
            character(3) -> 'c'; character(119) -> '2'; character(120) -> throws IndexOutOfBoundsException
            turn(2, 6) -> 14; logLine() -> 120; character(0) -> 'c'; character(117) -> 'r'; character(119) -> '6'
            """);
    }

    private static void cycleLine() {
        Calls.run("28: each cycle from its lowest slot on, the lowest first", """
            append "[r01,c01]" -> 9; learn(0) -> 4; cycleLine(0) -> 8; written -> "(0 24 7)"
            append "r01" -> 3; learn(1) -> 1; cycleLine(1) -> 17; written -> "(0 1 2 3 4 5 6 7)"
            append "r14" -> 3; learn(2) -> 1; cycleLine(2) -> 26; written -> "(8 12)(9 13)(10 14)(11 15)"
            append "c11'r34" -> 7; learn(3) -> 2; cycleLine(3) -> 35
            written -> "(1 29 25 17 9)(24 28)(26 30)(27 31)"
            forget(3) -> 3; cycleLine(3) -> throws NoSuchElementException
            cycleLine(5) -> throws IndexOutOfBoundsException; cycleLine(-1) -> throws IndexOutOfBoundsException
            """);
        Calls.run("28: what moves nothing has an empty line", """
            line(0) -> 8; append "r04r04" -> 6; learn(0) -> 2; cycleLine(0) -> 0; written -> ""
            cycleLine(1) -> throws NoSuchElementException; written -> ""
            """);
        Calls.run("28: the longest line of cycles", """
            append "r04r14r24r34" -> 12; learn(0) -> 4; cycleLine(0) -> 102
            character(0) -> '('; character(101) -> ')'; character(100) -> '1'
            """);
    }

    private static void character() {
        Calls.run("29: a character of the line, which is empty at first", """
            character(0) -> throws IndexOutOfBoundsException; character(-1) -> throws IndexOutOfBoundsException
            line(3) -> 8; character(0) -> '3'; character(7) -> '3'; character(8) -> throws IndexOutOfBoundsException
            character(-1) -> throws IndexOutOfBoundsException; turn(0, 1) -> 24; logLine() -> 3
            character(0) -> 'r'; character(1) -> '0'; character(2) -> '1'
            character(3) -> throws IndexOutOfBoundsException; character(7) -> throws IndexOutOfBoundsException
            character(2147483647) -> throws IndexOutOfBoundsException
            character(-2147483648) -> throws IndexOutOfBoundsException
            append "r" -> 1; read() -> throws IllegalArgumentException; undo() -> 0; character(0) -> 'r'
            """);
    }
}
