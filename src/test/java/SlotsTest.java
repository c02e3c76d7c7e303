/** Promises 7 to 13: at, where, paint, colour, isDone, seams and fewest. */
public final class SlotsTest {
    public static void main(String[] arguments) {
        atAndWhere();
        paintAndColour();
        done();
        seams();
        fewest();
        Calls.end();
    }

    private static void atAndWhere() {
        Calls.run("7 and 8: at and where tell the same", """
            turn(1, 2) -> 24; shift(0, 1) -> 21
            at(0) -> 24; at(8) -> 0; at(16) -> 14; at(24) -> 16; at(10) -> 8; at(15) -> 13
            where(24) -> 0; where(0) -> 8; where(14) -> 16; where(16) -> 24; where(8) -> 10; where(31) -> 31
            at(-1) -> throws IndexOutOfBoundsException; at(32) -> throws IndexOutOfBoundsException
            where(-1) -> throws IndexOutOfBoundsException; where(32) -> throws IndexOutOfBoundsException
            at(2147483647) -> throws IndexOutOfBoundsException; where(-2147483648) -> throws IndexOutOfBoundsException
            """);
    }

    private static void paintAndColour() {
        Calls.run("9 and 10: a colour goes with its sticker", """
            paint(0, 5) -> 0; colour(0) -> 5; turn(0, 1) -> 24; colour(0) -> 0; colour(1) -> 5
            shift(1, 2) -> 21; colour(1) -> 2; colour(17) -> 5; paint(0, 4) -> 5; colour(17) -> 4
            paint(31, 0) -> 3; colour(31) -> 0; account(0) -> 21; account(3) -> 2; account(2) -> 2; account(7) -> 5
            """);
        Calls.run("9: what is not painted", """
            paint(-1, 9) -> throws IndexOutOfBoundsException; paint(32, 0) -> throws IndexOutOfBoundsException
            paint(0, -1) -> throws IllegalArgumentException; paint(0, 6) -> throws IllegalArgumentException
            refusal(false) -> throws NoSuchElementException
            paint(8, 1) -> throws UnsupportedOperationException; refusal(false) -> 4; refusal(true) -> 1
            paint(8, 0) -> 1; paint(8, 0) -> throws UnsupportedOperationException; refusal(true) -> 0
            paint(8, 5) -> 0; paint(8, 5) -> throws UnsupportedOperationException; refusal(true) -> 5
            account(7) -> 2; paint(8, 6) -> throws IllegalArgumentException; refusal(true) -> 5
            """);
        Calls.run("10: there is no such slot", """
            colour(-1) -> throws IndexOutOfBoundsException; colour(32) -> throws IndexOutOfBoundsException
            colour(0) -> 0; colour(31) -> 3
            """);
    }

    private static void done() {
        Calls.run("11: a ring is done with any one colour, whatever stickers are there", """
            isDone(0) -> true; isDone(3) -> true; turn(2, 3) -> 24; isDone(2) -> true; account(1) -> 4
            shift(7, 1) -> 21; isDone(0) -> false; isDone(3) -> false; account(1) -> 0
            paint(31, 0) -> 3; isDone(0) -> true; account(1) -> 1; paint(0, 5) -> 0; isDone(0) -> false
            account(1) -> 0
            isDone(-1) -> throws IndexOutOfBoundsException; isDone(4) -> throws IndexOutOfBoundsException
            """);
        Calls.run("11: each column counts, the first and the last one too", """
            paint(8, 0) -> 1; isDone(1) -> false; paint(8, 1) -> 0; isDone(1) -> true
            paint(15, 5) -> 1; isDone(1) -> false; isDone(0) -> true; isDone(2) -> true; account(1) -> 3
            paint(15, 1) -> 5; paint(9, 4) -> 1; isDone(1) -> false; paint(9, 1) -> 4; isDone(1) -> true
            paint(14, 0) -> 1; isDone(1) -> false
            """);
    }

    private static void seams() {
        Calls.run("12: seams beside one another, round each ring and column", """
            seams() -> 32; paint(9, 5) -> 1; seams() -> 34; paint(10, 5) -> 1; seams() -> 34
            paint(0, 5) -> 0; seams() -> 36; paint(7, 5) -> 0; seams() -> 36
            paint(24, 5) -> 3; seams() -> 37; paint(25, 5) -> 3; seams() -> 37
            """);
        Calls.run("12: one colour has no seams", oneColour() + "seams() -> 0\nseamShare() -> 0.0\n");
    }

    private static String oneColour() {
        StringBuilder calls = new StringBuilder();
        for (int sticker = 0; sticker < 32; sticker++) {
            calls.append("paint(" + sticker + ", 5) -> " + sticker / 8 + "\n");
        }
        return calls.toString();
    }

    private static void fewest() {
        Calls.run("13: none, one or two moves", """
            fewest(0, 0) -> 0; fewest(31, 31) -> 0; fewest(0, 7) -> 1; fewest(0, 1) -> 1; fewest(12, 9) -> 1
            fewest(0, 8) -> 1; fewest(0, 24) -> 1; fewest(31, 7) -> 1; fewest(0, 9) -> 2; fewest(31, 0) -> 2
            fewest(7, 8) -> 2; turn(0, 1) -> 24; fewest(0, 1) -> 1; fewest(0, 0) -> 0
            """);
        Calls.run("13: there is no such slot", """
            fewest(-1, 0) -> throws IndexOutOfBoundsException; fewest(32, 0) -> throws IndexOutOfBoundsException
            fewest(0, -1) -> throws IndexOutOfBoundsException; fewest(0, 32) -> throws IndexOutOfBoundsException
            fewest(32, 32) -> throws IndexOutOfBoundsException
            """);
    }
}
