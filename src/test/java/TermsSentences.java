/** The sentences ahead of the promises: of what an object is used for, and of the terms. */
final class TermsSentences {
    static void check() {
        calls();
        slotsAndStickers();
        moves();
        sequences();
        length();
        shelves();
        cycles();
        log();
        scrambles();
        reasons();
        texts();
        undo();
        exceptions();
        inDoubt();
    }

    private static void calls() {
        Sentences.under("What it is", "promises 1 to 40")
            .says("An object is used for at most 512 calls after it has been made", """
                learning 4 "r01" -> 1; many 500: use(4, 1) -> 24; where(0) -> 4; at(0) -> 4; cycleLine(4) -> 17
                account(7) -> 8; undo() -> 7; save() -> 24; isWell() -> true; where(0) -> 3
                """);
    }

    private static void slotsAndStickers() {
        Sentences.under("Terms", "promise 5")
            .says("Divisions are rounded down.", """
                scramble(9999, 2) -> 21; logLine() -> 6; written -> "c72r32"
                """);
        Sentences.under("Terms: Slots and stickers", "promises 1 to 3 and 7 to 10")
            .says("The barrel has 4 rings, numbered from 0, one above the other, and 8 columns, numbered from 0", """
                turn(-1, 1) -> throws IndexOutOfBoundsException; turn(0, 1) -> 24; turn(3, 1) -> 16
                turn(4, 1) -> throws IndexOutOfBoundsException; shift(-1, 1) -> throws IndexOutOfBoundsException
                shift(0, 1) -> 14; shift(7, 1) -> 12; shift(8, 1) -> throws IndexOutOfBoundsException
                """)
            .says("the slot of a ring and a column has the number 8 times the ring and the column, together", """
                turn(0, 1) -> 24; at(0) -> 7; at(7) -> 6; at(8) -> 8; turn(3, 1) -> 16; at(23) -> 23; at(24) -> 31
                at(31) -> 30
                """)
            .says("In each slot there is a sticker, numbered from 0 to 31", """
                at(0) -> 0; at(31) -> 31; where(0) -> 0; where(31) -> 31
                where(32) -> throws IndexOutOfBoundsException; where(-1) -> throws IndexOutOfBoundsException
                scramble(0, 60) -> 2; isWell() -> true; where(0) -> 22; where(31) -> 3
                """)
            .says("its home is the slot with its number", """
                account(0) -> 32; turn(3, 7) -> 24; account(0) -> 24; turn(3, 1) -> 32; shift(0, 3) -> 28
                shift(0, 1) -> 32
                """)
            .says("A sticker has a colour from 0 to 5", """
                paint(0, 5) -> 0; paint(31, 0) -> 3; paint(0, 6) -> throws IllegalArgumentException
                paint(31, -1) -> throws IllegalArgumentException; colour(0) -> 5; colour(31) -> 0
                """)
            .says("at first the number of the ring of its home", """
                colour(0) -> 0; colour(7) -> 0; colour(8) -> 1; colour(15) -> 1; colour(16) -> 2; colour(23) -> 2
                colour(24) -> 3; colour(31) -> 3
                """);
    }

    private static void moves() {
        Sentences.under("Terms: Moves", "promises 2 to 4 and 31")
            .says("To turn a ring by 1 to 7 moves each of its stickers by so many columns to the right", """
                turn(2, 1) -> 24; at(17) -> 16; at(23) -> 22; where(16) -> 17; at(15) -> 15; at(24) -> 24
                turn(1, 7) -> 16; at(15) -> 8; at(14) -> 15
                """)
            .says("from the last column on to the column 0", """
                turn(0, 1) -> 24; where(7) -> 0; turn(3, 7) -> 16; where(31) -> 30; where(25) -> 24; where(24) -> 31
                at(16) -> 16
                """)
            .says("To shift a column by 1 to 3 moves each of its stickers by so many rings down", """
                shift(2, 1) -> 28; at(10) -> 2; at(26) -> 18; where(2) -> 10; at(1) -> 1; at(11) -> 11
                shift(5, 3) -> 24; where(5) -> 29
                """)
            .says("from the last ring on to the ring 0", """
                shift(0, 1) -> 28; where(24) -> 0; shift(7, 3) -> 24; where(31) -> 23; where(15) -> 7
                where(7) -> 31; at(6) -> 6
                """)
            .says("The inverse of a move is the turn or shift of the same by 8, or by 4, less as many.", """
                reading "r01'r17'r24'" -> 3; where(0) -> 7; where(8) -> 9; where(16) -> 20; reading "r01r17r24" -> 3
                account(0) -> 32; reading "c01'c73'c42'" -> 3; where(0) -> 24; where(7) -> 15; where(4) -> 20
                reading "c01c73c42" -> 3; account(0) -> 32
                """);
    }

    private static void sequences() {
        Sentences.under("Terms: Sequences", "promises 14 and 31")
            .says("A sequence is a row of items.", """
                reading "r01" -> 1; reading "c01r01" -> 2; where(0) -> 2; where(7) -> 8
                reading "r01r02r03r04r05r06r07r11r12r13r14r15r16r17c01c02c03c11c12c13" -> 20
                """)
            .says("\"r\", a ring and by how much it is turned", """
                reading "r01r37" -> 2; where(0) -> 1; where(24) -> 31; reading "r4" -> wrong at 1
                reading "r/" -> wrong at 1; reading "r41" -> wrong at 1; reading "r00" -> wrong at 2
                reading "r08" -> wrong at 2; reading "r" -> wrong at 1; reading "r0" -> wrong at 2
                """)
            .says("\"c\", a column and by how much it is shifted", """
                reading "c01c73" -> 2; where(0) -> 8; where(7) -> 31; reading "c8" -> wrong at 1
                reading "c/" -> wrong at 1; reading "c81" -> wrong at 1; reading "c00" -> wrong at 2
                reading "c04" -> wrong at 2; reading "c" -> wrong at 1; reading "c0" -> wrong at 2
                """)
            .says("\"s\" and a shelf with something on it, which does what is on the shelf", """
                learning 0 "r01" -> 1; learning 4 "c01" -> 1; reading "s0" -> 1; where(0) -> 1; reading "s4" -> 1
                where(7) -> 8; reading "s3" -> wrong at 1; reading "s5" -> wrong at 1; reading "s/" -> wrong at 1
                reading "s" -> wrong at 1
                """)
            .says("\"(\", a sequence, \")\" and a number from 2 to 9, which does the sequence so many times", """
                reading "(r01)2" -> 2; where(0) -> 2; reading "(r01)9" -> 9; where(0) -> 3
                reading "(r01)0" -> wrong at 5; reading "(r01)1" -> wrong at 5; reading "(r01):" -> wrong at 5
                reading "(r01)10" -> wrong at 5; reading "(r01)" -> wrong at 5; reading "(r01)22" -> wrong at 6
                reading "(r01)r" -> wrong at 5; where(0) -> 3
                """)
            .says("or \"[\", a sequence, \",\", a sequence and \"]\", which does the first one, the second one, "
                + "the inverse of the first one, and the inverse of the second one.", """
                reading "[r01,c01]" -> 4; where(0) -> 24; where(24) -> 7; where(7) -> 0; reading "[c01,r01]" -> 4
                account(0) -> 32; reading "[r01,r03]" -> 4; account(0) -> 32; reading "[r01]" -> wrong at 4
                reading "[r01,]" -> wrong at 5; reading "[r01,c01" -> wrong at 8
                reading "[r01,c01,c02]" -> wrong at 8; reading "[r01,c01)2" -> wrong at 8
                """)
            .says("Behind each item there can be one \"'\": then its inverse is done.", """
                learning 0 "r03" -> 1; reading "s0'" -> 1; where(0) -> 5; reading "r05'" -> 1; where(0) -> 0
                reading "(r01)2'" -> 2; where(0) -> 6; reading "[r01,c01]'" -> 4; reading "[c01,r01]'" -> 4
                where(0) -> 6; reading "r01''" -> wrong at 4; reading "(r01)2''" -> wrong at 7
                reading "[r01,c01]''" -> wrong at 10; reading "s0''" -> wrong at 3; reading "'" -> wrong at 0
                reading "('r01)2" -> wrong at 1; reading "(r01)'2" -> wrong at 5; where(0) -> 6
                """)
            .says("The inverse of a sequence is the inverses of its items, the last one first.", """
                reading "(r01c01r11)2" -> 6; reading "(r01c01r11)2'" -> 6; account(0) -> 32
                reading "[r01c01,r11]" -> 6; learning 0 "r01c01r11c01'r01'r11'" -> 6; use(0, -1) -> 32
                reading "[r01c01',r11c21]'" -> 8; reading "[r01c01',r11c21]" -> 8; account(0) -> 32
                """)
            .says("Parentheses and brackets stand in at most 3 others.", """
                reading "((((r01)2)2)2)2" -> 16; reading "[[[[r01,c01],c11],c21],c31]" -> 46
                reading "(((((r01)2)2)2)2)2" -> wrong at 4
                reading "[r01,[r01,[r01,[r01,[r01,c01]]]]]" -> wrong at 20; reading "(((r01)2)2)2(((r01)2)2)2" -> 16
                """);
    }

    private static void length() {
        Sentences.under("Terms: Length", "promises 14 and 31")
            .says("A move, or what is on a shelf, counts 1", """
                reading "r07" -> 1; reading "c03'" -> 1; learning 0 "((r01)9)9" -> 81; reading "s0" -> 1
                reading "((s0)9)9" -> 81; learning 1 "r04r04" -> 2; reading "s1'" -> 1
                """)
            .says("a row counts the sum of its items", """
                reading "r01c01" -> 2; reading "r01r07" -> 2; reading "r01'(r01)2'r01" -> 4
                """)
            .says("an item with \"(\" as often as told what is in it", """
                reading "(r01)2" -> 2; reading "(r01c01r02)9" -> 27; reading "((r01)2r01)3" -> 9
                reading "([r01,c01])2" -> 8
                """)
            .says("and one with \"[\" twice both sequences in it", """
                reading "[r01,c01]" -> 4; reading "[r01c01,(r01)2]" -> 8; reading "[[r01,c01],c01]'" -> 10
                """)
            .says("A sequence may count at most 200.", """
                learning 0 "(((r01)5)5)8" -> 200; reading "(((r01)5)5)8" -> 200
                reading "[((r01)5)5,(((r01)5)5)3]" -> 200
                reading "(((r01)5)5)8r01" -> throws UnsupportedOperationException
                learning 0 "r01(((r01)5)5)8" -> throws UnsupportedOperationException
                reading "(((r01r02)5)2)8(r01)9" -> 169
                reading "[((r01)5)5,(((r01)5)5)3r01]" -> throws UnsupportedOperationException
                reading "((r01)5)5((r01)5)7((r01)5)7((r01)5)7((r01)5)7((r01)5)7" -> 200
                reading "((((r01r02r03r04r05r06r07r01r02r03r04r05r06r07r01r02)9)9)9)9" -> throws UnsupportedOperationException
                account(4) -> 4
                """);
    }

    private static void shelves() {
        Sentences.under("Terms: Shelves", "promises 14 to 20")
            .says("There are 5 shelves, numbered from 0, each with a permutation of slots or nothing", """
                learning 0 "r01" -> 1; learning 4 "r11" -> 1; learning 5 "r21" -> throws IndexOutOfBoundsException
                learning -1 "r31" -> throws IndexOutOfBoundsException; goesTo(0, 0) -> 1; goesTo(4, 8) -> 9
                goesTo(1, 0) -> throws NoSuchElementException; goesTo(3, 0) -> throws NoSuchElementException
                account(5) -> 2
                """)
            .says("it tells for each slot to which slot what is there goes", """
                turn(0, 3) -> 24; learning 0 "r07c03" -> 2; goesTo(0, 0) -> 7; goesTo(0, 1) -> 24; goesTo(0, 8) -> 0
                goesTo(0, 9) -> 9; goesTo(0, 31) -> 31
                """)
            .says("To do a permutation moves all stickers so.", """
                shift(3, 1) -> 28; learning 0 "r01r37" -> 2; use(0, 1) -> 14; where(27) -> 4; where(3) -> 11
                where(31) -> 30; where(24) -> 31; where(19) -> 26
                """)
            .says("To join two permutations is to do the first one, and then the second one.", """
                learning 0 "r01" -> 1; learning 1 "c01" -> 1; join(0, 1, 2) -> 11; goesTo(2, 7) -> 8
                goesTo(2, 0) -> 1; join(1, 0, 2) -> 11; goesTo(2, 7) -> 0; goesTo(2, 0) -> 8
                """);
    }

    private static void cycles() {
        Sentences.under("Terms: Cycles", "promises 21 to 24")
            .says("goes by doing the permutation again and again, until it is back", """
                learning 0 "r35r23r17c71r07" -> 5; cycle(0, 0) -> 32; cycle(0, 31) -> 32; learning 0 "r04" -> 1
                cycle(0, 0) -> 2; cycle(0, 7) -> 2; cycle(0, 8) -> 1
                """)
            .says("The order of a permutation is how often it has to be done, at least once, until all is back at first.", """
                learning 0 "r01r07" -> 2; shelfOf(0, 3) -> 1; orderAgain(0) -> 1
                learning 0 "c62r35c02r13r21r02" -> 6; shelfOf(0, 3) -> 5460; orderAgain(0) -> 5460
                learning 1 "r04" -> 1; shelfOf(1, 3) -> 2; orderAgain(1) -> 2
                """)
            .says("A permutation is even if an even number of exchanges of two slots makes it.", """
                learning 0 "r04r04" -> 2; isEven(0, true) -> true; isEven(0, false) -> true; learning 0 "c02" -> 1
                isEven(0, true) -> true; isEven(0, false) -> true; learning 0 "[r01,c01]" -> 4
                isEven(0, true) -> true; isEven(0, false) -> true; learning 0 "c01" -> 1; isEven(0, true) -> false
                isEven(0, false) -> false
                """);
    }

    private static void log() {
        Sentences.under("Terms: The log", "promises 2 to 6, 15 and 31")
            .says("The log has the latest 40 moves that were done by themselves, the latest last.", """
                turn(3, 7) -> 24; many 38: turn(0, 1) -> 16; account(2) -> 39; shift(7, 3) -> 14; account(2) -> 40
                logOf(0, 1) -> 3; logOf(39, 1) -> 7; shift(6, 1) -> 12; account(2) -> 40; logOf(0, 1) -> 0
                logOf(38, 1) -> 7; logOf(39, 1) -> 6; logOf(40, 1) -> throws IndexOutOfBoundsException
                """)
            .says("Turning, shifting and scrambling put their moves there.", """
                turn(1, 2) -> 24; account(2) -> 1; shift(1, 2) -> 21; account(2) -> 2; scramble(0, 1) -> 18
                account(2) -> 3; logLine() -> 9; written -> "r12c12c21"; scramble(0, 60) -> 2; account(2) -> 40
                """)
            .says("To go back takes the last move away from it.", """
                turn(1, 2) -> 24; shift(1, 2) -> 21; back() -> 1; logLine() -> 3; written -> "r12"; back() -> 0
                back() -> throws UnsupportedOperationException; many 41: turn(0, 1) -> 24; back() -> 39
                logOf(38, 1) -> 0; logOf(39, 1) -> throws IndexOutOfBoundsException
                """)
            .says("To use a shelf, or to read a sequence, empties it.", """
                many 40: turn(0, 1) -> 32; learning 0 "r04r04" -> 2; account(2) -> 40; use(0, 1) -> 32
                account(2) -> 0; turn(0, 1) -> 24; use(1, 1) -> throws UnsupportedOperationException
                use(0, 0) -> throws IllegalArgumentException; reading "r" -> wrong at 1; account(2) -> 1
                reading "r01" -> 1; account(2) -> 0
                """);
    }

    private static void scrambles() {
        Sentences.under("Terms: Scrambles", "promise 5")
            .says("A scramble has a seed from 0 to 9999 and a number of moves from 1 to 60.", """
                scramble(0, 1) -> 28; scramble(9999, 60) -> 0; account(3) -> 61
                scramble(-1, 1) -> throws IllegalArgumentException
                scramble(10000, 1) -> throws IllegalArgumentException
                scramble(0, 0) -> throws IllegalArgumentException
                scramble(0, 61) -> throws IllegalArgumentException; account(3) -> 61
                """)
            .says("It begins with the value 1 more than the seed.", """
                scramble(0, 1) -> 28; scramble(9999, 1) -> 24; logLine() -> 6; written -> "c21c72"
                """)
            .says("what is left when 75 times the value and 74, together, is divided by 65537", """
                scramble(871, 1) -> 24; scramble(872, 1) -> 16; logLine() -> 6; written -> "r12r22"
                scramble(5524, 17) -> 4; logLine() -> 57; logOf(17, 1) -> 0; logOf(17, 2) -> 1; logOf(18, 1) -> 1
                logOf(18, 2) -> 3
                """)
            .says("Then, if the value is even, the ring told by what is left when half of the value is divided by 4 "
                + "is turned by 1 more than what is left when an eighth of the value is divided by 7", """
                scramble(1, 1) -> 24; scramble(19, 1) -> 16; scramble(33, 1) -> 24; scramble(51, 1) -> 32
                logLine() -> 12; written -> "r01r31r07r37"
                """)
            .says("and otherwise the column told by what is left when half of the value is divided by 8 "
                + "is shifted by 1 more than what is left when a sixteenth of the value is divided by 3.", """
                scramble(1754, 1) -> 28; scramble(881, 1) -> 24; scramble(887, 1) -> 28; scramble(14, 1) -> 32
                logLine() -> 12; written -> "c01c71c03c73"
                """);
    }

    private static void reasons() {
        Sentences.under("Terms: Reasons", "promises 4, 9, 14 to 19, 31 and 33")
            .says("Something is refused for the first that applies of the reasons that its method names, "
                + "in the order in which it names them, with a detail", """
                join(4, 3, 0) -> throws UnsupportedOperationException; refusal(true) -> 4
                commute(2, 1, 0) -> throws UnsupportedOperationException; refusal(true) -> 2
                """)
            .says("1, the log is empty: 0", """
                use(4, 1) -> throws UnsupportedOperationException; back() -> throws UnsupportedOperationException
                refusal(false) -> 1; refusal(true) -> 0; turn(0, 1) -> 24; back() -> 0
                paint(31, 3) -> throws UnsupportedOperationException; back() -> throws UnsupportedOperationException
                refusal(false) -> 1; refusal(true) -> 0
                """)
            .says("2, the sequence counts more than 200: 200", """
                reading "(((r01)5)5)8" -> 200; refusal(false) -> throws NoSuchElementException
                reading "(((r01)5)5)8r01" -> throws UnsupportedOperationException; refusal(false) -> 2
                refusal(true) -> 200; back() -> throws UnsupportedOperationException
                learning 0 "(((r01)9)9)9" -> throws UnsupportedOperationException; refusal(false) -> 2
                refusal(true) -> 200
                """)
            .says("3, there is nothing on the shelf: the shelf", """
                use(0, 1) -> throws UnsupportedOperationException; refusal(false) -> 3; refusal(true) -> 0
                forget(4) -> throws UnsupportedOperationException; refusal(false) -> 3; refusal(true) -> 4
                """)
            .says("4, the colour is so already: the colour", """
                paint(7, 0) -> throws UnsupportedOperationException; refusal(false) -> 4; refusal(true) -> 0
                paint(0, 5) -> 0; paint(0, 5) -> throws UnsupportedOperationException; refusal(false) -> 4
                refusal(true) -> 5
                """);
    }

    private static void texts() {
        Sentences.under("Terms: Texts", "promises 14 and 30 to 32")
            .says("The input has at most 60 characters", """
                many 59: append(114) -> 59; append(114) -> 60; append(114) -> throws IllegalStateException
                account(6) -> 60; read() -> throws IllegalArgumentException; append(114) -> 1
                """)
            .says("and is a sequence, without blanks", """
                reading " r01" -> wrong at 0; reading "r 01" -> wrong at 1; reading "r0 1" -> wrong at 2
                reading "r01 " -> wrong at 3; reading "r01 c01" -> wrong at 3; reading "( r01)2" -> wrong at 1
                reading "(r01) 2" -> wrong at 5; reading "[r01, c01]" -> wrong at 5; reading "r01\t" -> wrong at 3
                """)
            .says("the offset of the first character that cannot continue a sequence, whatever counts", """
                reading "x01y" -> wrong at 0
                reading "r01r02r03r04r05r06r07r11r12r13r14r15r16r17c01c02c03c11c12c1x" -> wrong at 59
                reading "(((r01)9)9)9x" -> wrong at 12; learning 0 "(((r01)9)9)9'(r01)1" -> wrong at 18
                refusal(false) -> throws NoSuchElementException
                """)
            .says("or the length of the text if it ends too early", """
                reading "" -> wrong at 0; reading "r" -> wrong at 1; reading "r0" -> wrong at 2
                reading "(r01" -> wrong at 4; reading "[r01,c01" -> wrong at 8
                reading "r01r02r03r04r05r06r07r11r12r13r14r15r16r17c01c02c03c11c12(r1" -> wrong at 60
                """)
            .says("a shelf on which there is nothing is told by a character that cannot continue", """
                reading "s0" -> wrong at 1; reading "s4" -> wrong at 1; learning 2 "r01" -> 1
                reading "s2s1" -> wrong at 3; reading "s2s3r" -> wrong at 3; reading "[s2,s4]" -> wrong at 5
                learning 4 "s2s4" -> wrong at 3; forget(2) -> 0; reading "s2" -> wrong at 1
                """)
            .says("and so are a turn by 0, 8 or 9", """
                reading "r00" -> wrong at 2; reading "r18" -> wrong at 2; reading "r29" -> wrong at 2
                reading "r01r30'" -> wrong at 5; reading "r31r37" -> 2
                """)
            .says("and a shift by 0 or by 4 to 9", """
                reading "c00" -> wrong at 2; reading "c14" -> wrong at 2; reading "c25" -> wrong at 2
                reading "c36" -> wrong at 2; reading "c47" -> wrong at 2; reading "c58" -> wrong at 2
                reading "c69" -> wrong at 2; reading "c71c73" -> 2
                """);
    }

    private static void undo() {
        Sentences.under("Terms: Undo", "promises 38 and 40")
            .says("The changes are the successful calls of turn, shift, back, scramble, paint, read, learn, use, join, "
                + "invert, commute and forget.", """
                turn(0, 1) -> 24; account(7) -> 1; shift(0, 1) -> 21; account(7) -> 2; back() -> 1; account(7) -> 3
                scramble(0, 1) -> 21; account(7) -> 4; paint(0, 5) -> 0; account(7) -> 5; reading "r01" -> 1
                account(7) -> 6; save() -> 21; restore() -> 21; account(7) -> 0; learning 0 "r04r04" -> 2
                account(7) -> 1; use(0, 1) -> 21; account(7) -> 2; join(0, 0, 0) -> 0; account(7) -> 3
                invert(0, 0) -> 0; account(7) -> 4; commute(0, 0, 0) -> 0; account(7) -> 5; forget(0) -> 0
                account(7) -> 6
                """)
            .says("The changes are the successful calls", """
                turn(0, 8) -> throws IllegalArgumentException; shift(8, 1) -> throws IndexOutOfBoundsException
                back() -> throws UnsupportedOperationException; scramble(0, 61) -> throws IllegalArgumentException
                paint(0, 0) -> throws UnsupportedOperationException; reading "x" -> wrong at 0
                learning 0 "" -> wrong at 0; use(0, 1) -> throws UnsupportedOperationException
                join(0, 0, 0) -> throws UnsupportedOperationException
                invert(0, 0) -> throws UnsupportedOperationException
                commute(0, 0, 0) -> throws UnsupportedOperationException
                forget(0) -> throws UnsupportedOperationException; append "r01" -> 3; line(0) -> 8; logLine() -> 0
                save() -> 32; account(7) -> 0; undo() -> throws IllegalStateException
                """)
            .says("The latest 8 can be undone", """
                many 9: turn(0, 1) -> 24; account(7) -> 8; many 7: undo() -> 1; undo() -> 0; where(0) -> 1
                undo() -> throws IllegalStateException; where(0) -> 1
                """)
            .says("restore forgets all", """
                many 9: turn(0, 1) -> 24; save() -> 24; account(7) -> 8; restore() -> 24; account(7) -> 0
                undo() -> throws IllegalStateException; turn(0, 7) -> 32; undo() -> 0
                undo() -> throws IllegalStateException; where(0) -> 1
                """);
    }

    private static void exceptions() {
        Sentences.under("Terms: Exceptions", "promises 1 to 40")
            .says("A method that throws an exception leaves the state unchanged unless its documentation says otherwise.", """
                turn(0, 1) -> 24; learning 0 "r01" -> 1; save() -> 24; line(0) -> 8; append "r0" -> 2
                turn(4, 1) -> throws IndexOutOfBoundsException; turn(0, 0) -> throws IllegalArgumentException
                shift(8, 1) -> throws IndexOutOfBoundsException; shift(0, 4) -> throws IllegalArgumentException
                scramble(0, 61) -> throws IllegalArgumentException; logOf(1, 0) -> throws IndexOutOfBoundsException
                logOf(0, 3) -> throws IllegalArgumentException; at(32) -> throws IndexOutOfBoundsException
                where(32) -> throws IndexOutOfBoundsException; paint(32, 0) -> throws IndexOutOfBoundsException
                paint(0, 6) -> throws IllegalArgumentException; paint(0, 0) -> throws UnsupportedOperationException
                use(0, 100) -> throws IllegalArgumentException; use(1, 1) -> throws UnsupportedOperationException
                join(0, 0, 5) -> throws IndexOutOfBoundsException
                join(0, 1, 0) -> throws UnsupportedOperationException
                invert(0, 5) -> throws IndexOutOfBoundsException
                invert(1, 0) -> throws UnsupportedOperationException
                commute(0, 0, 5) -> throws IndexOutOfBoundsException
                commute(1, 0, 0) -> throws UnsupportedOperationException
                forget(5) -> throws IndexOutOfBoundsException; forget(1) -> throws UnsupportedOperationException
                goesTo(0, 32) -> throws IndexOutOfBoundsException; shelfOf(0, 4) -> throws IllegalArgumentException
                orderAgain(1) -> throws NoSuchElementException; isEven(1, true) -> throws NoSuchElementException
                cycle(0, -1) -> throws IndexOutOfBoundsException; commutes(0, 1) -> throws NoSuchElementException
                line(4) -> throws IndexOutOfBoundsException; cycleLine(1) -> throws NoSuchElementException
                cycleLine(5) -> throws IndexOutOfBoundsException; character(8) -> throws IndexOutOfBoundsException
                account(8) -> throws IllegalArgumentException; where(0) -> 1; account(0) -> 24; account(2) -> 1
                account(3) -> 1; account(5) -> 1; account(6) -> 2; account(7) -> 2; goesTo(0, 0) -> 1
                written -> "00000000"; append "1" -> 3; read() -> 1
                """)
            .says("If several exceptions apply, the one that is documented first is thrown.", """
                turn(4, 0) -> throws IndexOutOfBoundsException; shift(8, 0) -> throws IndexOutOfBoundsException
                logOf(0, 3) -> throws IndexOutOfBoundsException; paint(32, 6) -> throws IndexOutOfBoundsException
                paint(0, 6) -> throws IllegalArgumentException; learning 5 "x" -> throws IndexOutOfBoundsException
                errorPosition() -> throws NoSuchElementException; learning 0 "(((r01)9)9)9x" -> wrong at 12
                use(5, 0) -> throws IndexOutOfBoundsException; use(0, 0) -> throws IllegalArgumentException
                join(0, 0, 5) -> throws IndexOutOfBoundsException; invert(0, 5) -> throws IndexOutOfBoundsException
                commute(0, 0, 5) -> throws IndexOutOfBoundsException; forget(5) -> throws IndexOutOfBoundsException
                goesTo(0, 32) -> throws IndexOutOfBoundsException; shelfOf(5, 4) -> throws IndexOutOfBoundsException
                shelfOf(0, 4) -> throws IllegalArgumentException; orderAgain(5) -> throws IndexOutOfBoundsException
                isEven(5, true) -> throws IndexOutOfBoundsException
                cycle(0, 32) -> throws IndexOutOfBoundsException; commutes(0, 5) -> throws IndexOutOfBoundsException
                cycleLine(5) -> throws IndexOutOfBoundsException
                """)
            .says("The input, the line, the error position and the reason are neither undone nor saved, and stay.", """
                turn(0, 1) -> 24; save() -> 24; reading "x" -> wrong at 0; back() -> 0
                back() -> throws UnsupportedOperationException; logLine() -> 0; line(3) -> 8; append "r01" -> 3
                undo() -> 1; account(6) -> 3; written -> "33333333"; errorPosition() -> 0; refusal(false) -> 1
                restore() -> 24; account(6) -> 3; written -> "33333333"; errorPosition() -> 0; refusal(true) -> 0
                read() -> 1; undo() -> 0; account(6) -> 0
                """);
    }

    private static void inDoubt() {
        Sentences.under("Terms: In doubt, too", "promises 14, 21, 22, 24, 28, 31 and 32")
            .says("A sequence has one item at least, so that \"\", \"()2\" and \"[,r11]\" are wrong at 0, 1 and 1.", """
                reading "" -> wrong at 0; reading "()2" -> wrong at 1; reading "[,r11]" -> wrong at 1
                reading "[r11,]" -> wrong at 5; reading "[]" -> wrong at 1; learning 0 "" -> wrong at 0
                learning 0 "()2" -> wrong at 1; learning 0 "[,r11]" -> wrong at 1
                """)
            .says("Parentheses or brackets can stand four within one another", """
                reading "((((r01)2)2)2)2" -> 16; reading "[r11,[r11,[r11,[r11,c11]]]]" -> 46
                reading "([([r01,c01])2,c11])2" -> 36
                """)
            .says("a fifth one that begins cannot continue", """
                reading "(((((" -> wrong at 4; reading "[[[[[" -> wrong at 4; reading "((((r01[" -> wrong at 7
                reading "((((r01)2(" -> wrong at 10; reading "([([r01,(" -> wrong at 8
                reading "((((r01)2)2(((r01" -> wrong at 13; reading "((((r01)2)2)2)2(((((r01" -> wrong at 19
                """)
            .says("What moves nothing has cycles of one slot, and the order 1.", """
                learning 0 "r04r04" -> 2; cycle(0, 0) -> 1; cycle(0, 31) -> 1; shelfOf(0, 0) -> 0
                shelfOf(0, 1) -> 0; shelfOf(0, 2) -> 1; shelfOf(0, 3) -> 1; orderAgain(0) -> 1; cycleLine(0) -> 0
                """)
            .says("A shelf in a sequence does what is on it when the text is read.", """
                learning 0 "r01" -> 1; append "s0" -> 2; invert(0, 0) -> 8; read() -> 1; where(0) -> 7
                learning 1 "s0" -> 1; invert(0, 0) -> 8; use(1, 1) -> 24; where(0) -> 6; append "s0" -> 2
                forget(0) -> 1; read() -> throws IllegalArgumentException; errorPosition() -> 1; append "s2" -> 2
                invert(1, 2) -> 8; read() -> 1; where(0) -> 7
                """);
    }
}
