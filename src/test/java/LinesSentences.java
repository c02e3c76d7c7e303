/** The sentences of the promises 26 to 32: line, logLine, cycleLine, character, append, read and errorPosition. */
final class LinesSentences {
    static void check() {
        line();
        logLine();
        cycleLine();
        character();
        append();
        read();
        errorPosition();
    }

    private static void line() {
        Sentences.under("Promise 26: line")
            .says("Writes the colours of a ring as a line", """
                paint(0, 5) -> 0; turn(0, 7) -> 24; line(0) -> 8; written -> "00000005"; shift(0, 1) -> 21
                line(3) -> 8; written -> "23333333"; line(0) -> 8; written -> "30000005"
                """)
            .says("in place of the line before", """
                many 4: turn(0, 1) -> 24; logLine() -> 12; line(3) -> 8; written -> "33333333"; line(2) -> 8
                written -> "22222222"
                """)
            .says("for each slot a digit", """
                paint(24, 0) -> 3; paint(31, 5) -> 3; line(3) -> 8; character(0) -> '0'; character(7) -> '5'
                character(8) -> throws IndexOutOfBoundsException
                """)
            .says("Returns its length.", """
                line(0) -> 8; line(3) -> 8; character(7) -> '3'; character(8) -> throws IndexOutOfBoundsException
                """)
            .says("Throws `IndexOutOfBoundsException` if there is no such ring", """
                line(2) -> 8; line(-1) -> throws IndexOutOfBoundsException
                line(4) -> throws IndexOutOfBoundsException; line(-2147483648) -> throws IndexOutOfBoundsException
                line(2147483647) -> throws IndexOutOfBoundsException; written -> "22222222"; line(0) -> 8
                line(3) -> 8
                """);
    }

    private static void logLine() {
        Sentences.under("Promise 27: logLine")
            .says("Writes the log as a line", """
                logLine() -> 0; written -> ""; turn(3, 7) -> 24; shift(7, 3) -> 21; logLine() -> 6
                written -> "r37c73"
                """)
            .says("in place of the line before", """
                line(0) -> 8; logLine() -> 0; written -> ""; turn(0, 1) -> 24; line(0) -> 8; logLine() -> 3
                written -> "r01"
                """)
            .says("as a sequence of its moves", """
                turn(3, 1) -> 24; shift(0, 3) -> 21; logLine() -> 6; written -> "r31c03"; back() -> 1; back() -> 0
                reading "r31c03" -> 2; account(0) -> 21
                """)
            .says("the earliest first", """
                turn(1, 1) -> 24; many 39: turn(0, 1) -> 16; logLine() -> 120; character(1) -> '1'; turn(2, 1) -> 8
                logLine() -> 120; character(1) -> '0'; character(118) -> '2'
                """)
            .says("Returns its length.", """
                logLine() -> 0; turn(0, 1) -> 24; logLine() -> 3; many 39: turn(0, 1) -> 32; logLine() -> 120
                turn(0, 1) -> 24; logLine() -> 120; character(119) -> '1'
                character(120) -> throws IndexOutOfBoundsException
                """);
    }

    private static void cycleLine() {
        Sentences.under("Promise 28: cycleLine")
            .says("Writes the cycles of what is on a shelf as a line", """
                learning 0 "[r01,c01]" -> 4; cycleLine(0) -> 8; written -> "(0 24 7)"; learning 4 "c73" -> 1
                cycleLine(4) -> 12; written -> "(7 31 23 15)"
                """)
            .says("in place of the line before", """
                learning 0 "r01r11r21" -> 3; cycleLine(0) -> 65; learning 0 "[r01,c01]" -> 4; cycleLine(0) -> 8
                written -> "(0 24 7)"; learning 0 "r04r04" -> 2; cycleLine(0) -> 0; written -> ""
                """)
            .says("each cycle of more than one slot in parentheses", """
                learning 0 "c02" -> 1; cycleLine(0) -> 12; written -> "(0 16)(8 24)"; learning 0 "r04r04" -> 2
                cycleLine(0) -> 0; written -> ""
                """)
            .says("from its lowest slot on", """
                learning 0 "c71'" -> 1; cycleLine(0) -> 12; written -> "(7 31 23 15)"; learning 0 "r17" -> 1
                cycleLine(0) -> 23; written -> "(8 15 14 13 12 11 10 9)"
                """)
            .says("with a blank between two slots", """
                learning 0 "r24" -> 1; cycleLine(0) -> 28; written -> "(16 20)(17 21)(18 22)(19 23)"
                learning 0 "r35r23r17c71r07" -> 5; cycleLine(0) -> 87
                written -> "(0 7 15 14 13 12 11 10 9 8 23 18 21 16 19 22 17 20 31 28 25 30 27 24 29 26 6 5 4 3 2 1)"
                """)
            .says("and the one with the lowest slot first", """
                learning 0 "c11'r34" -> 2; cycleLine(0) -> 35; written -> "(1 29 25 17 9)(24 28)(26 30)(27 31)"
                learning 0 "r32c02" -> 2; cycleLine(0) -> 34; written -> "(0 16)(8 24 26 28 30)(25 27 29 31)"
                """)
            .says("as in \"(0 1 2)(8 16)\"", """
                learning 0 "r05c73r27c72r03c63c61r26r23" -> 9; learning 1 "r04c02c73r21r11r02" -> 6
                learning 2 "s1's0s1" -> 3; cycleLine(2) -> 13; written -> "(0 1 2)(8 16)"
                """)
            .says("Returns its length.", """
                learning 0 "r04r04" -> 2; cycleLine(0) -> 0; learning 0 "r04r14r24r34" -> 4; cycleLine(0) -> 102
                character(101) -> ')'; character(102) -> throws IndexOutOfBoundsException
                """)
            .says("Throws `IndexOutOfBoundsException` if there is no such shelf", """
                line(1) -> 8; cycleLine(-1) -> throws IndexOutOfBoundsException
                cycleLine(5) -> throws IndexOutOfBoundsException
                cycleLine(-2147483648) -> throws IndexOutOfBoundsException
                cycleLine(2147483647) -> throws IndexOutOfBoundsException; written -> "11111111"
                learning 0 "r01" -> 1; learning 4 "r01" -> 1; cycleLine(0) -> 17; cycleLine(4) -> 17
                """)
            .says("Throws `NoSuchElementException` if there is nothing on the shelf", """
                line(1) -> 8; cycleLine(0) -> throws NoSuchElementException
                cycleLine(4) -> throws NoSuchElementException; written -> "11111111"; learning 4 "c01" -> 1
                cycleLine(4) -> 11; forget(4) -> 0; cycleLine(4) -> throws NoSuchElementException
                written -> "(0 8 16 24)"; refusal(false) -> throws NoSuchElementException
                """);
    }

    private static void character() {
        Sentences.under("Promise 29: character")
            .says("Returns a character of the line, which is empty at first.", """
                character(0) -> throws IndexOutOfBoundsException; line(2) -> 8; character(0) -> '2'
                character(7) -> '2'
                """)
            .says("`index`: the index, from 0", """
                turn(3, 7) -> 24; logLine() -> 3; character(0) -> 'r'; character(1) -> '3'; character(2) -> '7'
                """)
            .says("Returns the character.", """
                learning 0 "c71" -> 1; cycleLine(0) -> 12; character(0) -> '('; character(2) -> ' '
                character(10) -> '1'
                """)
            .says("Throws `IndexOutOfBoundsException` if there is no such index", """
                character(0) -> throws IndexOutOfBoundsException; character(-1) -> throws IndexOutOfBoundsException
                line(0) -> 8; character(-1) -> throws IndexOutOfBoundsException
                character(8) -> throws IndexOutOfBoundsException; character(7) -> '0'; logLine() -> 0
                character(0) -> throws IndexOutOfBoundsException
                character(2147483647) -> throws IndexOutOfBoundsException
                character(-2147483648) -> throws IndexOutOfBoundsException
                """);
    }

    private static void append() {
        Sentences.under("Promise 30: append")
            .says("Appends a character to the input.", """
                append(114) -> 1; append(48) -> 2; append(49) -> 3; read() -> 1; append(0) -> 1; append(255) -> 2
                append(65535) -> 3; read() -> throws IllegalArgumentException; errorPosition() -> 0
                append(370) -> 1; append(48) -> 2; append(49) -> 3; read() -> throws IllegalArgumentException
                errorPosition() -> 0; append(114) -> 1; append(176) -> 2; append(49) -> 3
                read() -> throws IllegalArgumentException; errorPosition() -> 1
                """)
            .says("Returns the characters in the input then.", """
                append(32) -> 1; many 58: append(32) -> 59; append(32) -> 60; account(6) -> 60
                """)
            .says("Throws `IllegalStateException` if the input contains 60 characters", """
                append "r01r02r03r04r05r06r07r11r12r13r14r15r16r17c01c02c03c11c12c13" -> 60
                append(114) -> throws IllegalStateException; append(39) -> throws IllegalStateException
                account(6) -> 60; read() -> 20; append(114) -> 1
                """);
    }

    private static void read() {
        Sentences.under("Promise 31: read")
            .says("Does the sequence in the input", """
                shift(0, 1) -> 28; reading "r01c73'" -> 2; where(24) -> 1; where(7) -> 0; where(31) -> 7
                account(2) -> 0; account(3) -> 1; account(4) -> 1; account(5) -> 0; account(7) -> 2
                """)
            .says("which is empty afterwards, also if an exception is thrown", """
                append "r01" -> 3; read() -> 1; account(6) -> 0; append "r01x" -> 4
                read() -> throws IllegalArgumentException; account(6) -> 0; append "(((r01)9)9)9" -> 12
                read() -> throws UnsupportedOperationException; account(6) -> 0
                read() -> throws IllegalArgumentException; errorPosition() -> 0; append "r" -> 1
                """)
            .says("Returns how much it counts.", """
                reading "r07" -> 1; reading "(r01)9'" -> 9; reading "[r01c01,r11]" -> 6
                reading "(((r01)5)5)8" -> 200
                """)
            .says("Throws `IllegalArgumentException` if the text is no sequence, whose error position is then kept", """
                turn(0, 1) -> 24; reading "" -> wrong at 0; reading "r01x" -> wrong at 3
                reading "r01c0" -> wrong at 5; errorPosition() -> 5; account(0) -> 24; account(2) -> 1
                account(4) -> 0; account(7) -> 1; reading "(((r01)9)9)9)" -> wrong at 12
                refusal(false) -> throws NoSuchElementException; reading "r01" -> 1; errorPosition() -> 12
                """)
            .says("Throws `UnsupportedOperationException` if it is refused for reason 2; the reason is kept for refusal", """
                turn(0, 1) -> 24; reading "(((r01)5)5)8r01" -> throws UnsupportedOperationException
                refusal(false) -> 2; refusal(true) -> 200; errorPosition() -> throws NoSuchElementException
                account(0) -> 24; account(2) -> 1; account(4) -> 0; account(7) -> 1; reading "(((r01)5)5)8" -> 200
                """);
    }

    private static void errorPosition() {
        Sentences.under("Promise 32: errorPosition")
            .says("Returns the error position that was kept last, by read or learn.", """
                append "r01x" -> 4; read() -> throws IllegalArgumentException; errorPosition() -> 3
                append "r0" -> 2; learn(0) -> throws IllegalArgumentException; errorPosition() -> 2
                read() -> throws IllegalArgumentException; errorPosition() -> 0; append "c" -> 1
                learn(4) -> throws IllegalArgumentException; errorPosition() -> 1; reading "r01" -> 1
                learning 0 "r01" -> 1; errorPosition() -> 1; append "x" -> 1
                learn(5) -> throws IndexOutOfBoundsException; errorPosition() -> 1
                """)
            .says("Returns the error position.", """
                append "r02r03r04r05r06r07r11r12r13r14r15r16r17c01c02c03c11c12c13r0'" -> 60
                read() -> throws IllegalArgumentException; errorPosition() -> 59; append "'" -> 1
                read() -> throws IllegalArgumentException; errorPosition() -> 0
                """)
            .says("Throws `NoSuchElementException` if none was kept", """
                errorPosition() -> throws NoSuchElementException; reading "r01" -> 1; learning 0 "r01" -> 1
                reading "(((r01)9)9)9" -> throws UnsupportedOperationException
                errorPosition() -> throws NoSuchElementException; append "x" -> 1
                learn(5) -> throws IndexOutOfBoundsException; errorPosition() -> throws NoSuchElementException
                back() -> throws UnsupportedOperationException; errorPosition() -> throws NoSuchElementException
                read() -> throws IllegalArgumentException; errorPosition() -> 0
                """);
    }
}
