/** Promises 33 to 37: refusal, account, isWell, meanAway and seamShare. */
public final class AccountsTest {
    public static void main(String[] arguments) {
        refusal();
        accounts();
        well();
        shares();
        Calls.end();
    }

    private static void refusal() {
        Calls.run("33: the latest reason and its detail", """
            refusal(false) -> throws NoSuchElementException; refusal(true) -> throws NoSuchElementException
            turn(4, 1) -> throws IndexOutOfBoundsException; read() -> throws IllegalArgumentException
            undo() -> throws IllegalStateException; shelfOf(0, 0) -> throws NoSuchElementException
            refusal(false) -> throws NoSuchElementException
            back() -> throws UnsupportedOperationException; refusal(false) -> 1; refusal(true) -> 0
            append "(((r01)9)9)9" -> 12; read() -> throws UnsupportedOperationException
            refusal(false) -> 2; refusal(true) -> 200
            invert(4, 0) -> throws UnsupportedOperationException; refusal(false) -> 3; refusal(true) -> 4
            paint(31, 3) -> throws UnsupportedOperationException; refusal(false) -> 4; refusal(true) -> 3
            turn(0, 1) -> 24; paint(31, 6) -> throws IllegalArgumentException; refusal(false) -> 4; refusal(true) -> 3
            save() -> 24; undo() -> 0; restore() -> 24; refusal(false) -> 4; refusal(true) -> 3
            join(1, 0, 0) -> throws UnsupportedOperationException; refusal(false) -> 3; refusal(true) -> 1
            """);
    }

    private static void accounts() {
        Calls.run("34: each account", """
            account(-1) -> throws IllegalArgumentException; account(8) -> throws IllegalArgumentException
            account(-2147483648) -> throws IllegalArgumentException
            turn(0, 1) -> 24; account(0) -> 24; account(1) -> 4; account(2) -> 1; account(3) -> 1; account(7) -> 1
            shift(7, 1) -> 21; account(1) -> 0; account(2) -> 2; account(3) -> 2; account(7) -> 2
            scramble(0, 4) -> 8; account(2) -> 6; account(3) -> 6; account(7) -> 3
            back() -> 5; account(2) -> 5; account(3) -> 7; account(7) -> 4
            append "r01" -> 3; account(6) -> 3; learn(2) -> 1; account(3) -> 7; account(4) -> 0; account(5) -> 1
            account(6) -> 0; account(7) -> 5; append "s2r11" -> 5; read() -> 2; account(2) -> 0; account(3) -> 7
            account(4) -> 1; account(7) -> 6; use(2, 7) -> 8; account(3) -> 7; account(4) -> 1; account(7) -> 7
            invert(2, 0) -> 8; account(5) -> 2; account(7) -> 8; paint(0, 1) -> 0; account(7) -> 8
            append "c01" -> 3; read() -> 1; account(4) -> 2; forget(0) -> 1; account(5) -> 1
            """);
    }

    private static void well() {
        Calls.run("35: all is well, whatever was done", """
            isWell() -> true; scramble(77, 60) -> 2; isWell() -> true; append "[r01,c01]r22" -> 12; learn(0) -> 5
            isWell() -> true; use(0, -7) -> 0; isWell() -> true; commute(0, 0, 4) -> 0; isWell() -> true
            join(0, 0, 1) -> 11; invert(1, 1) -> 11; isWell() -> true; undo() -> 5; isWell() -> true
            paint(3, 3) -> 0; isWell() -> true; save() -> 0; forget(0) -> 2; restore() -> 0; isWell() -> true
            account(7) -> 0; account(5) -> 3
            """);
    }

    private static void shares() {
        Calls.run("36: the mean of the fewest moves to the homes", """
            meanAway() -> 0.0; turn(0, 3) -> 24; meanAway() -> 0.25; shift(2, 1) -> 21; meanAway() -> 0.375
            turn(0, 5) -> 28; meanAway() -> 0.1875
            """);
        Calls.run("37: the share of the seams", """
            seamShare() -> 0.5; paint(9, 5) -> 1; seamShare() -> 0.53125; paint(0, 5) -> 0; seamShare() -> 0.5625
            paint(0, 0) -> 5; paint(9, 1) -> 5; seamShare() -> 0.5
            """);
    }
}
