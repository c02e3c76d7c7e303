/** The sentences of the promises 14 to 25: what shelves get, what is done with it, and what it is like. */
final class ShelvesSentences {
    static void check() {
        learn();
        use();
        join();
        invert();
        commute();
        forget();
        goesTo();
        shelfOf();
        orderAgain();
        isEven();
        cycle();
        commutes();
    }

    private static void learn() {
        Sentences.under("Promise 14: learn")
            .says("Learns the sequence in the input: puts its permutation on a shelf, in place of what is there", """
                learning 0 "r01c02" -> 2; goesTo(0, 7) -> 16; goesTo(0, 0) -> 1; learning 4 "r37" -> 1
                goesTo(4, 24) -> 31; learning 0 "r11" -> 1; goesTo(0, 0) -> 0; goesTo(0, 8) -> 9; account(5) -> 2
                learning 0 "s0s0" -> 2; goesTo(0, 8) -> 10; goesTo(4, 24) -> 31
                """)
            .says("and does nothing to the barrel", """
                turn(3, 1) -> 24; learning 0 "r01c01" -> 2; account(0) -> 24; at(0) -> 0; account(2) -> 1
                account(3) -> 1; account(4) -> 0; back() -> 0
                """)
            .says("The input is empty afterwards, also if an exception is thrown.", """
                append "r01" -> 3; learn(0) -> 1; account(6) -> 0; append "r01" -> 3
                learn(5) -> throws IndexOutOfBoundsException; account(6) -> 0; append "r01" -> 3
                learn(-1) -> throws IndexOutOfBoundsException; account(6) -> 0; append "r01x" -> 4
                learn(0) -> throws IllegalArgumentException; account(6) -> 0; append "(((r01)9)9)9" -> 12
                learn(0) -> throws UnsupportedOperationException; account(6) -> 0; append "r" -> 1
                many 59: append(49) -> 60; learn(5) -> throws IndexOutOfBoundsException; account(6) -> 0
                """)
            .says("Returns how much the sequence counts.", """
                learning 0 "r07" -> 1; learning 1 "s0" -> 1; learning 1 "(r01)9" -> 9; learning 2 "[r01c01,s1]" -> 6
                learning 3 "(((r01)5)5)8" -> 200
                """)
            .says("Throws `IndexOutOfBoundsException` if there is no such shelf", """
                learning -1 "r01" -> throws IndexOutOfBoundsException
                learning 5 "r01" -> throws IndexOutOfBoundsException
                learning -2147483648 "r01" -> throws IndexOutOfBoundsException
                learning 2147483647 "r01" -> throws IndexOutOfBoundsException; append "x" -> 1
                learn(5) -> throws IndexOutOfBoundsException; errorPosition() -> throws NoSuchElementException
                append "(((r01)9)9)9" -> 12; learn(5) -> throws IndexOutOfBoundsException
                refusal(false) -> throws NoSuchElementException; account(5) -> 0; account(7) -> 0
                learning 0 "r01" -> 1; learning 4 "r01" -> 1
                """)
            .says("Throws `IllegalArgumentException` if the text is no sequence, whose error position is then kept", """
                learning 0 "" -> wrong at 0; learning 0 "r01x" -> wrong at 3; learning 4 "r01c0" -> wrong at 5
                errorPosition() -> 5; learning 0 "r01" -> 1; errorPosition() -> 5; learning 0 "x" -> wrong at 0
                goesTo(0, 0) -> 1; account(5) -> 1; account(7) -> 1
                """)
            .says("Throws `UnsupportedOperationException` if it is refused for reason 2; the reason is kept for refusal", """
                learning 0 "(((r01)5)5)8" -> 200; refusal(false) -> throws NoSuchElementException
                learning 0 "(((r11)5)5)8r01" -> throws UnsupportedOperationException; refusal(false) -> 2
                refusal(true) -> 200; goesTo(0, 8) -> 8; account(7) -> 1
                errorPosition() -> throws NoSuchElementException
                """);
    }

    private static void use() {
        Sentences.under("Promise 15: use")
            .says("Does what is on a shelf, some times, or its inverse.", """
                learning 0 "r01c01" -> 2; use(0, 1) -> 21; where(7) -> 8; where(0) -> 1; use(0, 2) -> 21
                use(0, -3) -> 32; where(7) -> 7; account(3) -> 0; account(4) -> 0; account(7) -> 4
                goesTo(0, 7) -> 8
                """)
            .says("`times`: how many times, 1 to 99, or -1 to -99 for the inverse", """
                learning 0 "r01" -> 1; use(0, 1) -> 24; where(0) -> 1; use(0, 99) -> 24; where(0) -> 4
                use(0, -1) -> 24; where(0) -> 3; use(0, -99) -> 32; where(0) -> 0
                """)
            .says("Returns how many stickers are at home then.", """
                learning 0 "r01r11r21r31" -> 4; use(0, 1) -> 0; use(0, 7) -> 32; learning 0 "r04r04" -> 2
                use(0, 99) -> 32
                """)
            .says("Throws `IndexOutOfBoundsException` if there is no such shelf", """
                use(-1, 1) -> throws IndexOutOfBoundsException; use(5, 1) -> throws IndexOutOfBoundsException
                use(-2147483648, 1) -> throws IndexOutOfBoundsException
                use(2147483647, 1) -> throws IndexOutOfBoundsException
                use(5, 0) -> throws IndexOutOfBoundsException; account(7) -> 0; learning 0 "r01" -> 1
                learning 4 "r11" -> 1; use(0, 1) -> 24; use(4, 1) -> 16
                """)
            .says("Throws `IllegalArgumentException` if the number is out of range", """
                learning 0 "r01" -> 1; turn(1, 1) -> 24; use(0, 0) -> throws IllegalArgumentException
                use(0, 100) -> throws IllegalArgumentException; use(0, -100) -> throws IllegalArgumentException
                use(0, -2147483648) -> throws IllegalArgumentException
                use(0, 2147483647) -> throws IllegalArgumentException; use(4, 0) -> throws IllegalArgumentException
                refusal(false) -> throws NoSuchElementException; account(0) -> 24; account(2) -> 1; account(7) -> 2
                """)
            .says("Throws `UnsupportedOperationException` if it is refused for reason 3; the reason is kept for refusal", """
                turn(1, 1) -> 24; use(0, 1) -> throws UnsupportedOperationException; refusal(false) -> 3
                refusal(true) -> 0; use(4, -99) -> throws UnsupportedOperationException; refusal(true) -> 4
                account(0) -> 24; account(2) -> 1; account(7) -> 1; learning 4 "r01" -> 1; use(4, 1) -> 16
                """);
    }

    private static void join() {
        Sentences.under("Promise 16: join")
            .says("Joins what is on two shelves, onto a shelf", """
                learning 0 "r01" -> 1; learning 4 "c01" -> 1; join(0, 4, 2) -> 11; goesTo(2, 7) -> 8
                goesTo(2, 24) -> 0; join(4, 0, 3) -> 11; goesTo(3, 7) -> 0; goesTo(3, 24) -> 1; goesTo(0, 7) -> 0
                goesTo(4, 0) -> 8; account(0) -> 32; account(5) -> 4; account(7) -> 4
                """)
            .says("in place of what is there", """
                learning 0 "r01" -> 1; learning 1 "c01" -> 1; learning 2 "r31" -> 1; join(0, 1, 2) -> 11
                goesTo(2, 24) -> 0; goesTo(2, 25) -> 25; join(0, 1, 0) -> 11; goesTo(0, 7) -> 8; goesTo(1, 0) -> 8
                join(2, 1, 1) -> 11; goesTo(1, 7) -> 16; goesTo(1, 24) -> 8; join(2, 2, 2) -> 11; goesTo(2, 6) -> 8
                account(5) -> 3
                """)
            .says("Returns how many slots it moves.", """
                learning 0 "r01" -> 1; learning 1 "r07" -> 1; join(0, 1, 2) -> 0; learning 3 "r04r14r24r34" -> 4
                join(3, 2, 4) -> 32; join(0, 0, 0) -> 8; join(0, 3, 0) -> 32
                """)
            .says("Throws `IndexOutOfBoundsException` if there is no such shelf, for any of the three", """
                learning 0 "r01" -> 1; learning 4 "r11" -> 1; join(-1, 0, 0) -> throws IndexOutOfBoundsException
                join(5, 0, 0) -> throws IndexOutOfBoundsException
                join(0, -1, 0) -> throws IndexOutOfBoundsException
                join(0, 5, 0) -> throws IndexOutOfBoundsException
                join(0, 0, -1) -> throws IndexOutOfBoundsException
                join(0, 0, 5) -> throws IndexOutOfBoundsException
                join(-2147483648, 0, 0) -> throws IndexOutOfBoundsException
                join(0, 2147483647, 0) -> throws IndexOutOfBoundsException
                join(1, 2, 5) -> throws IndexOutOfBoundsException; account(7) -> 2; join(4, 4, 4) -> 8
                join(0, 0, 0) -> 8
                """)
            .says("Throws `UnsupportedOperationException` if it is refused for reason 3, for the first one, "
                + "then for the second one; the reason is kept for refusal", """
                join(4, 3, 0) -> throws UnsupportedOperationException; refusal(false) -> 3; refusal(true) -> 4
                learning 4 "r01" -> 1; join(4, 3, 0) -> throws UnsupportedOperationException; refusal(true) -> 3
                join(0, 4, 4) -> throws UnsupportedOperationException; refusal(false) -> 3; refusal(true) -> 0
                account(5) -> 1; account(7) -> 1; goesTo(4, 0) -> 1
                """);
    }

    private static void invert() {
        Sentences.under("Promise 17: invert")
            .says("Inverts what is on a shelf, onto a shelf", """
                learning 0 "r01c01" -> 2; invert(0, 4) -> 11; goesTo(4, 8) -> 7; goesTo(4, 0) -> 24
                goesTo(4, 1) -> 0; goesTo(0, 7) -> 8; goesTo(0, 0) -> 1; join(0, 4, 1) -> 0; account(0) -> 32
                account(5) -> 3; account(7) -> 3
                """)
            .says("in place of what is there", """
                learning 0 "r01" -> 1; learning 1 "r31" -> 1; invert(0, 1) -> 8; goesTo(1, 24) -> 24
                goesTo(1, 0) -> 7; invert(0, 0) -> 8; goesTo(0, 0) -> 7; goesTo(0, 7) -> 6; invert(0, 0) -> 8
                goesTo(0, 0) -> 1; account(5) -> 2
                """)
            .says("Returns how many slots it moves.", """
                learning 0 "r04r04" -> 2; invert(0, 1) -> 0; learning 0 "c02" -> 1; invert(0, 0) -> 4
                learning 0 "r01r11r21r31" -> 4; invert(0, 2) -> 32
                """)
            .says("Throws `IndexOutOfBoundsException` if there is no such shelf, for either", """
                learning 0 "r01" -> 1; learning 4 "r11" -> 1; invert(-1, 0) -> throws IndexOutOfBoundsException
                invert(5, 0) -> throws IndexOutOfBoundsException; invert(0, -1) -> throws IndexOutOfBoundsException
                invert(0, 5) -> throws IndexOutOfBoundsException
                invert(2147483647, 0) -> throws IndexOutOfBoundsException
                invert(0, -2147483648) -> throws IndexOutOfBoundsException
                invert(1, 5) -> throws IndexOutOfBoundsException; account(7) -> 2; invert(4, 0) -> 8
                invert(0, 4) -> 8
                """)
            .says("Throws `UnsupportedOperationException` if it is refused for reason 3; the reason is kept for refusal", """
                invert(0, 0) -> throws UnsupportedOperationException; refusal(false) -> 3; refusal(true) -> 0
                learning 0 "r01" -> 1; invert(4, 0) -> throws UnsupportedOperationException; refusal(false) -> 3
                refusal(true) -> 4; goesTo(0, 0) -> 1; account(5) -> 1; account(7) -> 1; invert(0, 4) -> 8
                """);
    }

    private static void commute() {
        Sentences.under("Promise 18: commute")
            .says("Puts onto a shelf", """
                learning 0 "r01" -> 1; learning 1 "c01" -> 1; learning 4 "r31" -> 1; commute(0, 1, 4) -> 3
                cycleLine(4) -> 8; written -> "(0 24 7)"; account(0) -> 32; account(5) -> 3; account(7) -> 4
                goesTo(0, 0) -> 1; goesTo(1, 0) -> 8
                """)
            .says("in place of what is there", """
                learning 0 "r01" -> 1; learning 1 "c01" -> 1; commute(0, 1, 0) -> 3; cycleLine(0) -> 8
                written -> "(0 24 7)"; undo() -> 2; commute(0, 1, 1) -> 3; cycleLine(1) -> 8; written -> "(0 24 7)"
                commute(1, 1, 1) -> 0; cycleLine(1) -> 0; account(5) -> 2
                """)
            .says("what does the first one, the second one, the inverse of the first one, and the inverse of the second one", """
                learning 0 "r01" -> 1; learning 1 "c01" -> 1; commute(0, 1, 2) -> 3; cycleLine(2) -> 8
                written -> "(0 24 7)"; commute(1, 0, 3) -> 3; cycleLine(3) -> 8; written -> "(0 7 24)"
                learning 4 "s0s1s0's1'" -> 4; use(4, 1) -> 29; use(2, -1) -> 32
                """)
            .says("Returns how many slots it moves.", """
                learning 0 "r01" -> 1; learning 1 "r15" -> 1; commute(0, 1, 2) -> 0; commute(0, 0, 2) -> 0
                learning 1 "r01r11r21r31" -> 4; learning 2 "c01c21c41c61" -> 4; commute(1, 2, 3) -> 32
                """)
            .says("Throws `IndexOutOfBoundsException` if there is no such shelf, for any of the three", """
                learning 0 "r01" -> 1; learning 4 "r11" -> 1; commute(-1, 0, 0) -> throws IndexOutOfBoundsException
                commute(5, 0, 0) -> throws IndexOutOfBoundsException
                commute(0, -1, 0) -> throws IndexOutOfBoundsException
                commute(0, 5, 0) -> throws IndexOutOfBoundsException
                commute(0, 0, -1) -> throws IndexOutOfBoundsException
                commute(0, 0, 5) -> throws IndexOutOfBoundsException
                commute(2147483647, 0, 0) -> throws IndexOutOfBoundsException
                commute(0, -2147483648, 0) -> throws IndexOutOfBoundsException
                commute(1, 2, 5) -> throws IndexOutOfBoundsException; account(7) -> 2; commute(4, 4, 4) -> 0
                commute(0, 0, 0) -> 0
                """)
            .says("Throws `UnsupportedOperationException` if it is refused for reason 3, for the first one, "
                + "then for the second one; the reason is kept for refusal", """
                commute(4, 3, 0) -> throws UnsupportedOperationException; refusal(false) -> 3; refusal(true) -> 4
                learning 4 "r01" -> 1; commute(4, 3, 0) -> throws UnsupportedOperationException; refusal(true) -> 3
                commute(0, 4, 4) -> throws UnsupportedOperationException; refusal(false) -> 3; refusal(true) -> 0
                account(5) -> 1; account(7) -> 1; goesTo(4, 0) -> 1
                """);
    }

    private static void forget() {
        Sentences.under("Promise 19: forget")
            .says("Takes away what is on a shelf.", """
                learning 0 "r01" -> 1; learning 4 "r11" -> 1; forget(4) -> 1
                goesTo(4, 0) -> throws NoSuchElementException; goesTo(0, 0) -> 1
                use(4, 1) -> throws UnsupportedOperationException; reading "s4" -> wrong at 1; account(0) -> 32
                account(7) -> 3; learning 4 "r21" -> 1; goesTo(4, 8) -> 8; goesTo(4, 16) -> 17
                """)
            .says("Returns how many shelves have something then.", """
                learning 0 "r01" -> 1; join(0, 0, 1) -> 8; join(0, 0, 2) -> 8; join(0, 0, 3) -> 8
                join(0, 0, 4) -> 8; account(5) -> 5; forget(0) -> 4; forget(4) -> 3; forget(1) -> 2; forget(3) -> 1
                forget(2) -> 0
                """)
            .says("Throws `IndexOutOfBoundsException` if there is no such shelf", """
                forget(-1) -> throws IndexOutOfBoundsException; forget(5) -> throws IndexOutOfBoundsException
                forget(-2147483648) -> throws IndexOutOfBoundsException
                forget(2147483647) -> throws IndexOutOfBoundsException
                refusal(false) -> throws NoSuchElementException; account(7) -> 0; learning 0 "r01" -> 1
                learning 4 "r01" -> 1; forget(4) -> 1; forget(0) -> 0
                """)
            .says("Throws `UnsupportedOperationException` if it is refused for reason 3; the reason is kept for refusal", """
                forget(0) -> throws UnsupportedOperationException; refusal(false) -> 3; refusal(true) -> 0
                learning 0 "r01" -> 1; forget(4) -> throws UnsupportedOperationException; refusal(false) -> 3
                refusal(true) -> 4; forget(0) -> 0; forget(0) -> throws UnsupportedOperationException
                refusal(true) -> 0; account(5) -> 0; account(7) -> 2
                """);
    }

    private static void goesTo() {
        Sentences.under("Promise 20: goesTo")
            .says("Returns to which slot what is in a slot goes by what is on a shelf.", """
                learning 0 "r01" -> 1; learning 4 "c73" -> 1; turn(0, 1) -> 24; goesTo(0, 0) -> 1; goesTo(0, 7) -> 0
                goesTo(0, 8) -> 8; goesTo(4, 7) -> 31; goesTo(4, 31) -> 23; goesTo(4, 0) -> 0
                """)
            .says("Returns the slot.", """
                learning 2 "c01r37" -> 2; goesTo(2, 0) -> 8; goesTo(2, 24) -> 0; goesTo(2, 16) -> 31
                goesTo(2, 31) -> 30
                """)
            .says("Throws `IndexOutOfBoundsException` if there is no such shelf or slot", """
                learning 0 "r01" -> 1; goesTo(-1, 0) -> throws IndexOutOfBoundsException
                goesTo(5, 0) -> throws IndexOutOfBoundsException; goesTo(0, -1) -> throws IndexOutOfBoundsException
                goesTo(0, 32) -> throws IndexOutOfBoundsException; goesTo(4, 32) -> throws IndexOutOfBoundsException
                goesTo(2147483647, 0) -> throws IndexOutOfBoundsException
                goesTo(0, -2147483648) -> throws IndexOutOfBoundsException; learning 4 "c73" -> 1
                goesTo(4, 31) -> 23; goesTo(0, 0) -> 1; goesTo(0, 31) -> 31
                """)
            .says("Throws `NoSuchElementException` if there is nothing on the shelf", """
                goesTo(0, 0) -> throws NoSuchElementException; goesTo(4, 31) -> throws NoSuchElementException
                learning 4 "r01" -> 1; goesTo(4, 31) -> 31; goesTo(3, 0) -> throws NoSuchElementException
                forget(4) -> 0; goesTo(4, 31) -> throws NoSuchElementException
                refusal(false) -> throws NoSuchElementException
                """);
    }

    private static void shelfOf() {
        Sentences.under("Promise 21: shelfOf")
            .says("`what`: 0 for the slots that it moves", """
                learning 0 "r04r04" -> 2; shelfOf(0, 0) -> 0; learning 0 "c01" -> 1; shelfOf(0, 0) -> 4
                learning 0 "r01r11r21r31" -> 4; shelfOf(0, 0) -> 32
                """)
            .says("1 for its cycles of more than one slot", """
                learning 0 "r04r04" -> 2; shelfOf(0, 1) -> 0; learning 0 "c02" -> 1; shelfOf(0, 1) -> 2
                learning 0 "r04r14r24r34" -> 4; shelfOf(0, 1) -> 16; learning 0 "r35r23r17c71r07" -> 5
                shelfOf(0, 1) -> 1
                """)
            .says("2 for the length of its longest cycle", """
                learning 0 "r04r04" -> 2; shelfOf(0, 2) -> 1; learning 0 "r31" -> 1; shelfOf(0, 2) -> 8
                learning 0 "r01c31'r31" -> 3; shelfOf(0, 2) -> 18; learning 0 "r24c11" -> 2; shelfOf(0, 2) -> 5
                learning 0 "r35r23r17c71r07" -> 5; shelfOf(0, 2) -> 32
                """)
            .says("3 for its order", """
                learning 0 "r04r04" -> 2; shelfOf(0, 3) -> 1; learning 0 "[r01,c01]r21" -> 5; shelfOf(0, 3) -> 24
                learning 0 "c62r35c02r13r21r02" -> 6; shelfOf(0, 3) -> 5460; learning 0 "r35r23r17c71r07" -> 5
                shelfOf(0, 3) -> 32
                """)
            .says("Returns a number of what is on a shelf.", """
                learning 0 "r02" -> 1; learning 4 "c71" -> 1; shelfOf(0, 0) -> 8; shelfOf(0, 1) -> 2
                shelfOf(0, 2) -> 4; shelfOf(0, 3) -> 4; shelfOf(4, 0) -> 4; shelfOf(4, 1) -> 1; shelfOf(4, 2) -> 4
                shelfOf(4, 3) -> 4
                """)
            .says("Returns the number.", """
                learning 3 "[r01,c01]" -> 4; shelfOf(3, 0) -> 3; shelfOf(3, 1) -> 1; shelfOf(3, 2) -> 3
                shelfOf(3, 3) -> 3
                """)
            .says("Throws `IndexOutOfBoundsException` if there is no such shelf", """
                learning 0 "r01" -> 1; shelfOf(-1, 0) -> throws IndexOutOfBoundsException
                shelfOf(5, 0) -> throws IndexOutOfBoundsException
                shelfOf(-2147483648, 0) -> throws IndexOutOfBoundsException
                shelfOf(2147483647, 0) -> throws IndexOutOfBoundsException
                shelfOf(5, 4) -> throws IndexOutOfBoundsException; learning 4 "c73" -> 1; shelfOf(4, 3) -> 4
                shelfOf(0, 0) -> 8
                """)
            .says("Throws `IllegalArgumentException` if what is not from 0 to 3", """
                learning 0 "r01" -> 1; shelfOf(0, -1) -> throws IllegalArgumentException
                shelfOf(0, 4) -> throws IllegalArgumentException
                shelfOf(0, -2147483648) -> throws IllegalArgumentException
                shelfOf(0, 2147483647) -> throws IllegalArgumentException
                shelfOf(4, 4) -> throws IllegalArgumentException; shelfOf(4, -1) -> throws IllegalArgumentException
                shelfOf(0, 0) -> 8; shelfOf(0, 3) -> 8
                """)
            .says("Throws `NoSuchElementException` if there is nothing on the shelf", """
                shelfOf(0, 0) -> throws NoSuchElementException; shelfOf(4, 3) -> throws NoSuchElementException
                learning 4 "r01" -> 1; shelfOf(4, 3) -> 8; shelfOf(3, 3) -> throws NoSuchElementException
                forget(4) -> 0; shelfOf(4, 3) -> throws NoSuchElementException
                refusal(false) -> throws NoSuchElementException
                """);
    }

    private static void orderAgain() {
        Sentences.under("Promise 22: orderAgain")
            .says("Returns the order of what is on a shelf by a second way: by doing it until all is back.", """
                learning 0 "r04r04" -> 2; orderAgain(0) -> 1; learning 0 "r04" -> 1; orderAgain(0) -> 2
                learning 0 "c62r35c02r13r21r02" -> 6; orderAgain(0) -> 5460; orderAgain(0) -> 5460; account(0) -> 32
                account(7) -> 3
                """)
            .says("Returns the order.", """
                learning 0 "r35r23r17c71r07" -> 5; orderAgain(0) -> 32; learning 4 "r01c01" -> 2
                orderAgain(4) -> 11; orderAgain(0) -> 32
                """)
            .says("Throws `IndexOutOfBoundsException` if there is no such shelf", """
                orderAgain(-1) -> throws IndexOutOfBoundsException
                orderAgain(5) -> throws IndexOutOfBoundsException
                orderAgain(-2147483648) -> throws IndexOutOfBoundsException
                orderAgain(2147483647) -> throws IndexOutOfBoundsException; learning 0 "r01" -> 1
                learning 4 "c01" -> 1; orderAgain(0) -> 8; orderAgain(4) -> 4
                """)
            .says("Throws `NoSuchElementException` if there is nothing on the shelf", """
                orderAgain(0) -> throws NoSuchElementException; orderAgain(4) -> throws NoSuchElementException
                learning 4 "r01" -> 1; orderAgain(4) -> 8; orderAgain(3) -> throws NoSuchElementException
                forget(4) -> 0; orderAgain(4) -> throws NoSuchElementException
                refusal(false) -> throws NoSuchElementException
                """);
    }

    private static void isEven() {
        Sentences.under("Promise 23: isEven")
            .says("Tells whether what is on a shelf is even, by its cycles", """
                learning 0 "r04r04" -> 2; isEven(0, false) -> true; learning 0 "c01" -> 1; isEven(0, false) -> false
                learning 0 "c02" -> 1; isEven(0, false) -> true; learning 0 "r35r23r17c71r07" -> 5
                isEven(0, false) -> false; learning 0 "[r01,c01]" -> 4; isEven(0, false) -> true
                """)
            .says("or by a second way: by the pairs of slots of which the one with the lower number goes to a slot "
                + "with a higher number than the other one.", """
                learning 0 "r04r04" -> 2; isEven(0, true) -> true; learning 0 "c01" -> 1; isEven(0, true) -> false
                learning 0 "c02" -> 1; isEven(0, true) -> true; learning 0 "r35r23r17c71r07" -> 5
                isEven(0, true) -> false; learning 0 "[r01,c01]" -> 4; isEven(0, true) -> true
                """)
            .says("`isAgain`: whether the second way is taken", """
                learning 0 "r37c73" -> 2; isEven(0, true) -> true; isEven(0, false) -> true; learning 0 "r37" -> 1
                isEven(0, true) -> false; isEven(0, false) -> false
                """)
            .says("Returns whether it is.", """
                learning 0 "r01" -> 1; learning 4 "r02" -> 1; isEven(0, true) -> false; isEven(0, false) -> false
                isEven(4, true) -> true; isEven(4, false) -> true
                """)
            .says("Throws `IndexOutOfBoundsException` if there is no such shelf", """
                isEven(-1, true) -> throws IndexOutOfBoundsException
                isEven(-1, false) -> throws IndexOutOfBoundsException
                isEven(5, true) -> throws IndexOutOfBoundsException
                isEven(5, false) -> throws IndexOutOfBoundsException
                isEven(-2147483648, true) -> throws IndexOutOfBoundsException
                isEven(2147483647, false) -> throws IndexOutOfBoundsException; learning 0 "r01" -> 1
                learning 4 "c02" -> 1; isEven(0, true) -> false; isEven(4, false) -> true
                """)
            .says("Throws `NoSuchElementException` if there is nothing on the shelf", """
                isEven(0, true) -> throws NoSuchElementException; isEven(4, false) -> throws NoSuchElementException
                learning 4 "r01" -> 1; isEven(4, true) -> false; isEven(3, false) -> throws NoSuchElementException
                isEven(3, true) -> throws NoSuchElementException; forget(4) -> 0
                isEven(4, false) -> throws NoSuchElementException; isEven(4, true) -> throws NoSuchElementException
                refusal(false) -> throws NoSuchElementException
                """);
    }

    private static void cycle() {
        Sentences.under("Promise 24: cycle")
            .says("Returns how long the cycle of a slot is by what is on a shelf.", """
                learning 0 "[r01,c01]r22c33" -> 6; cycle(0, 0) -> 3; cycle(0, 24) -> 3; cycle(0, 31) -> 1
                cycle(0, 16) -> 4; cycle(0, 17) -> 7; cycle(0, 27) -> 7
                """)
            .says("Returns how many slots it has.", """
                learning 0 "r04r04" -> 2; cycle(0, 0) -> 1; cycle(0, 31) -> 1; learning 4 "r35r23r17c71r07" -> 5
                cycle(4, 0) -> 32; cycle(4, 31) -> 32
                """)
            .says("Throws `IndexOutOfBoundsException` if there is no such shelf or slot", """
                learning 0 "r01" -> 1; cycle(-1, 0) -> throws IndexOutOfBoundsException
                cycle(5, 0) -> throws IndexOutOfBoundsException; cycle(0, -1) -> throws IndexOutOfBoundsException
                cycle(0, 32) -> throws IndexOutOfBoundsException; cycle(4, 32) -> throws IndexOutOfBoundsException
                cycle(2147483647, 0) -> throws IndexOutOfBoundsException
                cycle(0, -2147483648) -> throws IndexOutOfBoundsException; learning 4 "c73" -> 1; cycle(4, 31) -> 4
                cycle(0, 0) -> 8; cycle(0, 31) -> 1
                """)
            .says("Throws `NoSuchElementException` if there is nothing on the shelf", """
                cycle(0, 0) -> throws NoSuchElementException; cycle(4, 31) -> throws NoSuchElementException
                learning 4 "r01" -> 1; cycle(4, 31) -> 1; cycle(3, 0) -> throws NoSuchElementException
                forget(4) -> 0; cycle(4, 31) -> throws NoSuchElementException
                refusal(false) -> throws NoSuchElementException
                """);
    }

    private static void commutes() {
        Sentences.under("Promise 25: commutes")
            .says("Tells whether what is on two shelves does the same in either order.", """
                learning 0 "r01" -> 1; learning 1 "c01" -> 1; learning 2 "r03" -> 1; learning 3 "r35" -> 1
                learning 4 "r04r04" -> 2; commutes(0, 1) -> false; commutes(1, 0) -> false; commutes(0, 2) -> true
                commutes(0, 3) -> true; commutes(3, 1) -> false; commutes(4, 1) -> true; commutes(0, 4) -> true
                """)
            .says("`other`: the other one, or the same", """
                learning 0 "r01c01" -> 2; learning 4 "r01c01" -> 2; commutes(0, 0) -> true; commutes(4, 4) -> true
                commutes(0, 4) -> true
                """)
            .says("Returns whether it does.", """
                learning 0 "c73" -> 1; learning 4 "r07" -> 1; commutes(0, 4) -> false; commutes(4, 0) -> false
                learning 4 "c61" -> 1; commutes(0, 4) -> true; account(7) -> 3
                """)
            .says("Throws `IndexOutOfBoundsException` if there is no such shelf, for either", """
                learning 0 "r01" -> 1; commutes(-1, 0) -> throws IndexOutOfBoundsException
                commutes(5, 0) -> throws IndexOutOfBoundsException
                commutes(0, -1) -> throws IndexOutOfBoundsException
                commutes(0, 5) -> throws IndexOutOfBoundsException
                commutes(4, 5) -> throws IndexOutOfBoundsException
                commutes(-2147483648, 0) -> throws IndexOutOfBoundsException
                commutes(0, 2147483647) -> throws IndexOutOfBoundsException; learning 4 "r01" -> 1
                commutes(0, 4) -> true; commutes(4, 0) -> true
                """)
            .says("Throws `NoSuchElementException` if there is nothing on one of both", """
                commutes(0, 0) -> throws NoSuchElementException; commutes(0, 4) -> throws NoSuchElementException
                learning 4 "r01" -> 1; commutes(0, 4) -> throws NoSuchElementException
                commutes(4, 0) -> throws NoSuchElementException; commutes(4, 4) -> true; forget(4) -> 0
                commutes(4, 4) -> throws NoSuchElementException; refusal(false) -> throws NoSuchElementException
                """);
    }
}
