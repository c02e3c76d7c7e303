/** Promises 14 to 25: what is learnt, used, joined, inverted, commuted and forgotten, and what it is like. */
public final class ShelvesTest {
    public static void main(String[] arguments) {
        learn();
        use();
        join();
        invert();
        commute();
        forget();
        refusedBeforeWrong();
        goesTo();
        shelfOf();
        orders();
        signs();
        cycles();
        commutes();
        Calls.end();
    }

    private static void learn() {
        Calls.run("14: learn puts it on the shelf and leaves the barrel", """
            turn(3, 1) -> 24; append "r01c02" -> 6; learn(4) -> 2; account(0) -> 24; account(2) -> 1; account(3) -> 1
            account(4) -> 0; account(5) -> 1; account(6) -> 0; account(7) -> 2
            goesTo(4, 7) -> 16; goesTo(4, 0) -> 1; goesTo(4, 8) -> 24; goesTo(4, 31) -> 31
            append "c71" -> 3; learn(4) -> 1; goesTo(4, 7) -> 15; goesTo(4, 0) -> 0; account(5) -> 1
            append "s4s4" -> 4; learn(4) -> 2; goesTo(4, 7) -> 23; append "s4" -> 2; learn(0) -> 1
            append "r01" -> 3; learn(4) -> 1; goesTo(0, 7) -> 23; account(5) -> 2
            """);
        Calls.run("14: the input is empty afterwards, whatever is thrown", """
            append "r01" -> 3; learn(5) -> throws IndexOutOfBoundsException; account(6) -> 0
            errorPosition() -> throws NoSuchElementException
            append "r" -> 1; learn(-1) -> throws IndexOutOfBoundsException; account(6) -> 0
            errorPosition() -> throws NoSuchElementException
            append "r" -> 1; learn(0) -> throws IllegalArgumentException; account(6) -> 0; errorPosition() -> 1
            append "(((r01)9)9)3" -> 12; learn(0) -> throws UnsupportedOperationException; account(6) -> 0
            refusal(false) -> 2; refusal(true) -> 200; errorPosition() -> 1; account(5) -> 0; account(7) -> 0
            append "(((r01)9)9)2r" -> 13; learn(0) -> throws IllegalArgumentException; errorPosition() -> 13
            append "((r01)9)9" -> 9; learn(0) -> 81; append "s1" -> 2; learn(1) -> throws IllegalArgumentException
            errorPosition() -> 1; goesTo(0, 0) -> 1; account(5) -> 1
            """);
    }

    private static void use() {
        Calls.run("15: use does it so many times, or its inverse", """
            append "r01" -> 3; learn(2) -> 1; use(2, 1) -> 24; where(0) -> 1; use(2, 3) -> 24; where(0) -> 4
            use(2, -4) -> 32; use(2, 99) -> 24; where(0) -> 3; use(2, -99) -> 32; use(2, 8) -> 32; use(2, -1) -> 24
            where(0) -> 7; account(3) -> 0; account(4) -> 0; account(2) -> 0; account(7) -> 8
            """);
        Calls.run("15: use works on the slots, wherever the stickers are", """
            append "r01" -> 3; learn(0) -> 1; shift(3, 1) -> 28; account(2) -> 1; use(0, 1) -> 21; at(4) -> 27
            at(3) -> 2; account(2) -> 0; where(3) -> 11
            """);
        Calls.run("15: what cannot be used", """
            use(-1, 1) -> throws IndexOutOfBoundsException; use(5, 0) -> throws IndexOutOfBoundsException
            use(0, 0) -> throws IllegalArgumentException; use(0, 100) -> throws IllegalArgumentException
            use(0, -100) -> throws IllegalArgumentException; use(0, -2147483648) -> throws IllegalArgumentException
            use(0, 2147483647) -> throws IllegalArgumentException; refusal(true) -> throws NoSuchElementException
            turn(0, 1) -> 24; use(3, 99) -> throws UnsupportedOperationException; refusal(false) -> 3
            refusal(true) -> 3; use(4, -99) -> throws UnsupportedOperationException; refusal(true) -> 4
            account(2) -> 1; account(7) -> 1
            """);
    }

    private static void join() {
        Calls.run("16: join does the first one, and then the second one", """
            append "r01" -> 3; learn(0) -> 1; append "c01" -> 3; learn(1) -> 1
            join(0, 1, 2) -> 11; goesTo(2, 7) -> 8; goesTo(2, 0) -> 1; goesTo(2, 24) -> 0; goesTo(2, 6) -> 7
            join(1, 0, 3) -> 11; goesTo(3, 7) -> 0; goesTo(3, 0) -> 8; goesTo(3, 24) -> 1
            join(0, 0, 0) -> 8; goesTo(0, 0) -> 2; join(0, 1, 0) -> 11; goesTo(0, 6) -> 8
            join(1, 1, 1) -> 4; join(1, 1, 1) -> 0; account(5) -> 4; account(7) -> 8; account(0) -> 32
            """);
        Calls.run("16: onto the second one", """
            append "r01" -> 3; learn(0) -> 1; append "c01" -> 3; learn(1) -> 1; join(0, 1, 1) -> 11
            goesTo(1, 7) -> 8; goesTo(1, 0) -> 1; goesTo(0, 7) -> 0
            """);
        Calls.run("16: what cannot be joined", """
            join(-1, 0, 0) -> throws IndexOutOfBoundsException; join(0, 5, 0) -> throws IndexOutOfBoundsException
            join(0, 0, 5) -> throws IndexOutOfBoundsException; join(0, 0, -1) -> throws IndexOutOfBoundsException
            join(2, 3, 0) -> throws UnsupportedOperationException; refusal(false) -> 3; refusal(true) -> 2
            append "r01" -> 3; learn(2) -> 1; join(2, 3, 0) -> throws UnsupportedOperationException
            refusal(true) -> 3; join(4, 2, 0) -> throws UnsupportedOperationException; refusal(true) -> 4
            account(5) -> 1; account(7) -> 1; join(2, 2, 4) -> 8; account(5) -> 2
            """);
    }

    private static void invert() {
        Calls.run("17: invert onto another shelf, and onto itself", """
            append "r11c23" -> 6; learn(0) -> 2; goesTo(0, 9) -> 2; goesTo(0, 2) -> 26; goesTo(0, 15) -> 8
            invert(0, 1) -> 11; goesTo(1, 2) -> 9; goesTo(1, 26) -> 2; goesTo(1, 8) -> 15; goesTo(0, 9) -> 2
            invert(0, 0) -> 11; goesTo(0, 2) -> 9; goesTo(0, 26) -> 2; join(0, 1, 2) -> 11; join(0, 0, 3) -> 11
            account(5) -> 4; account(7) -> 5
            """);
        Calls.run("17: what cannot be inverted", """
            invert(-1, 0) -> throws IndexOutOfBoundsException; invert(5, 0) -> throws IndexOutOfBoundsException
            invert(0, 5) -> throws IndexOutOfBoundsException; invert(0, -1) -> throws IndexOutOfBoundsException
            invert(3, 0) -> throws UnsupportedOperationException; refusal(false) -> 3; refusal(true) -> 3
            append "r01" -> 3; learn(0) -> 1; invert(2, 0) -> throws UnsupportedOperationException; refusal(true) -> 2
            account(5) -> 1; account(7) -> 1; goesTo(0, 0) -> 1
            """);
    }

    private static void commute() {
        Calls.run("18: commute is the first one, the second one, and the inverses of both", """
            append "r01" -> 3; learn(0) -> 1; append "c01" -> 3; learn(1) -> 1
            commute(0, 1, 2) -> 3; goesTo(2, 0) -> 24; goesTo(2, 24) -> 7; goesTo(2, 7) -> 0
            commute(1, 0, 3) -> 3; goesTo(3, 0) -> 7; goesTo(3, 7) -> 24; goesTo(3, 24) -> 0
            commute(0, 0, 4) -> 0; commute(0, 1, 0) -> 3; goesTo(0, 0) -> 24; account(5) -> 5; account(0) -> 32
            append "r01" -> 3; learn(0) -> 1; commute(0, 1, 1) -> 3; goesTo(1, 24) -> 7; commute(0, 0, 0) -> 0
            account(7) -> 8
            """);
        Calls.run("18: what cannot be commuted", """
            commute(-1, 0, 0) -> throws IndexOutOfBoundsException; commute(0, 5, 0) -> throws IndexOutOfBoundsException
            commute(0, 0, 5) -> throws IndexOutOfBoundsException
            commute(1, 2, 0) -> throws UnsupportedOperationException; refusal(false) -> 3; refusal(true) -> 1
            append "r01" -> 3; learn(1) -> 1; commute(1, 2, 0) -> throws UnsupportedOperationException
            refusal(true) -> 2; commute(3, 1, 0) -> throws UnsupportedOperationException; refusal(true) -> 3
            account(5) -> 1; account(7) -> 1
            """);
    }

    private static void forget() {
        Calls.run("19: forget takes away what is on one shelf", """
            append "r01" -> 3; learn(0) -> 1; append "r11" -> 3; learn(4) -> 1; append "r21" -> 3; learn(2) -> 1
            forget(4) -> 2; goesTo(4, 0) -> throws NoSuchElementException; goesTo(2, 16) -> 17; account(5) -> 2
            forget(0) -> 1; forget(0) -> throws UnsupportedOperationException; refusal(false) -> 3; refusal(true) -> 0
            forget(4) -> throws UnsupportedOperationException; refusal(true) -> 4; forget(2) -> 0; account(7) -> 6
            forget(-1) -> throws IndexOutOfBoundsException; forget(5) -> throws IndexOutOfBoundsException
            append "s2" -> 2; read() -> throws IllegalArgumentException; errorPosition() -> 1; account(0) -> 32
            """);
    }

    private static void refusedBeforeWrong() {
        Calls.run("20 to 25: a shelf first, then what, and then nothing on it", """
            goesTo(5, 0) -> throws IndexOutOfBoundsException; goesTo(-1, 0) -> throws IndexOutOfBoundsException
            goesTo(0, 32) -> throws IndexOutOfBoundsException; goesTo(0, -1) -> throws IndexOutOfBoundsException
            goesTo(0, 31) -> throws NoSuchElementException
            shelfOf(5, 4) -> throws IndexOutOfBoundsException; shelfOf(-1, 0) -> throws IndexOutOfBoundsException
            shelfOf(0, 4) -> throws IllegalArgumentException; shelfOf(0, -1) -> throws IllegalArgumentException
            shelfOf(0, 3) -> throws NoSuchElementException
            orderAgain(5) -> throws IndexOutOfBoundsException; orderAgain(-1) -> throws IndexOutOfBoundsException
            orderAgain(4) -> throws NoSuchElementException
            isEven(5, true) -> throws IndexOutOfBoundsException; isEven(-1, false) -> throws IndexOutOfBoundsException
            isEven(0, true) -> throws NoSuchElementException; isEven(0, false) -> throws NoSuchElementException
            cycle(5, 0) -> throws IndexOutOfBoundsException; cycle(-1, 0) -> throws IndexOutOfBoundsException
            cycle(0, 32) -> throws IndexOutOfBoundsException; cycle(0, -1) -> throws IndexOutOfBoundsException
            cycle(0, 0) -> throws NoSuchElementException
            commutes(5, 0) -> throws IndexOutOfBoundsException; commutes(0, 5) -> throws IndexOutOfBoundsException
            commutes(-1, 0) -> throws IndexOutOfBoundsException; commutes(0, -1) -> throws IndexOutOfBoundsException
            commutes(0, 1) -> throws NoSuchElementException; refusal(false) -> throws NoSuchElementException
            append "r01" -> 3; learn(1) -> 1; commutes(0, 1) -> throws NoSuchElementException
            commutes(1, 0) -> throws NoSuchElementException; commutes(1, 1) -> true
            """);
    }

    private static void goesTo() {
        Calls.run("20: goesTo tells where what is in a slot goes", """
            append "c51" -> 3; learn(3) -> 1; goesTo(3, 5) -> 13; goesTo(3, 13) -> 21; goesTo(3, 21) -> 29
            goesTo(3, 29) -> 5; goesTo(3, 4) -> 4; use(3, 1) -> 28; goesTo(3, 5) -> 13; where(5) -> 13
            """);
    }

    private static void shelfOf() {
        Calls.run("21: slots that it moves, cycles, the longest one, and the order", """
            append "r01" -> 3; learn(0) -> 1
            shelfOf(0, 0) -> 8; shelfOf(0, 1) -> 1; shelfOf(0, 2) -> 8; shelfOf(0, 3) -> 8
            append "r02" -> 3; learn(0) -> 1
            shelfOf(0, 0) -> 8; shelfOf(0, 1) -> 2; shelfOf(0, 2) -> 4; shelfOf(0, 3) -> 4
            append "r04" -> 3; learn(0) -> 1
            shelfOf(0, 0) -> 8; shelfOf(0, 1) -> 4; shelfOf(0, 2) -> 2; shelfOf(0, 3) -> 2
            append "r01'r01" -> 7; learn(0) -> 2; shelfOf(0, 0) -> 0; shelfOf(0, 1) -> 0; shelfOf(0, 2) -> 1
            shelfOf(0, 3) -> 1; orderAgain(0) -> 1; isEven(0, true) -> true; isEven(0, false) -> true; cycle(0, 9) -> 1
            append "r01c01" -> 6; learn(1) -> 2; shelfOf(1, 0) -> 11; shelfOf(1, 1) -> 1; shelfOf(1, 2) -> 11
            shelfOf(1, 3) -> 11; append "[r01,c01]r21" -> 12; learn(1) -> 5; shelfOf(1, 0) -> 11; shelfOf(1, 1) -> 2
            shelfOf(1, 2) -> 8; shelfOf(1, 3) -> 24; orderAgain(1) -> 24
            """);
    }

    private static void orders() {
        Calls.run("22: orderAgain does it until all is back", """
            append "r01" -> 3; learn(0) -> 1; orderAgain(0) -> 8; append "r01c11r24" -> 9; learn(1) -> 3
            shelfOf(1, 3) -> 12; orderAgain(1) -> 12; append "c03" -> 3; learn(2) -> 1; orderAgain(2) -> 4
            join(0, 2, 3) -> 11; orderAgain(3) -> 11; goesTo(3, 0) -> 1; account(0) -> 32; account(7) -> 4
            """);
    }

    private static void signs() {
        Calls.run("23: isEven in both ways", """
            append "r01" -> 3; learn(0) -> 1; isEven(0, true) -> false; isEven(0, false) -> false
            append "r02" -> 3; learn(0) -> 1; isEven(0, true) -> true; isEven(0, false) -> true
            append "c71" -> 3; learn(0) -> 1; isEven(0, true) -> false; isEven(0, false) -> false
            append "c72" -> 3; learn(0) -> 1; isEven(0, true) -> true; isEven(0, false) -> true
            append "r31c51" -> 6; learn(0) -> 2; isEven(0, true) -> true; isEven(0, false) -> true
            append "[r31,c51]" -> 9; learn(0) -> 4; isEven(0, true) -> true; isEven(0, false) -> true
            append "[r31,c51]r17" -> 12; learn(0) -> 5; isEven(0, true) -> false; isEven(0, false) -> false
            """);
    }

    private static void cycles() {
        Calls.run("24: cycle tells how long the cycle of a slot is", """
            append "[r01,c01]r22c33" -> 15; learn(0) -> 6; cycle(0, 0) -> 3; cycle(0, 24) -> 3; cycle(0, 7) -> 3
            cycle(0, 1) -> 1; cycle(0, 31) -> 1; cycle(0, 16) -> 4; cycle(0, 17) -> 7
            cycle(0, 3) -> 7; cycle(0, 27) -> 7
            """);
    }

    private static void commutes() {
        Calls.run("25: commutes in either order", """
            append "r01" -> 3; learn(0) -> 1; append "c01" -> 3; learn(1) -> 1; append "r03" -> 3; learn(2) -> 1
            append "r35" -> 3; learn(3) -> 1; append "r08" -> 3; learn(4) -> throws IllegalArgumentException
            commutes(0, 1) -> false; commutes(1, 0) -> false; commutes(0, 2) -> true; commutes(0, 3) -> true
            commutes(1, 1) -> true; commutes(1, 3) -> false; commutes(3, 2) -> true; account(7) -> 4
            """);
    }
}
