/** Promises 30 to 32, and the texts of learn: append, read, errorPosition, and what is a sequence. */
public final class TextsTest {
    public static void main(String[] arguments) {
        append();
        read();
        items();
        counts();
        wrongAtAnItem();
        wrongWithin();
        depths();
        shelves();
        errorPosition();
        Calls.end();
    }

    private static void append() {
        Calls.run("30: the input takes 60 characters, of any kind", """
            append(0) -> 1; append(65535) -> 2; append(32) -> 3; many 57: append(114) -> 60; account(6) -> 60
            append(114) -> throws IllegalStateException; account(6) -> 60
            read() -> throws IllegalArgumentException; account(6) -> 0; append(114) -> 1
            """);
        Calls.run("30: a sequence of 60 characters", """
            append "r01r02r03r04r05r06r07r11r12r13r14r15r16r17c01c02c03c11c12c13" -> 60
            append(114) -> throws IllegalStateException; read() -> 20; account(0) -> 12; account(6) -> 0
            """);
    }

    private static void read() {
        Calls.run("31: read does the sequence, which empties the log", """
            turn(3, 1) -> 24; append "r01c12'" -> 7; read() -> 2; account(0) -> 14; at(1) -> 17; at(17) -> 0
            account(2) -> 0; account(3) -> 1; account(4) -> 1; account(5) -> 0; account(6) -> 0; account(7) -> 2
            read() -> throws IllegalArgumentException; account(4) -> 1; account(7) -> 2
            """);
        Calls.run("31: what is no sequence, or counts too much, does nothing", """
            turn(3, 1) -> 24; append "r01r" -> 4; read() -> throws IllegalArgumentException; account(6) -> 0
            append "(((r01)9)9)3" -> 12; read() -> throws UnsupportedOperationException; account(6) -> 0
            refusal(false) -> 2; refusal(true) -> 200; errorPosition() -> 4
            append "(((r01)9)9)3r" -> 13; read() -> throws IllegalArgumentException; errorPosition() -> 13
            account(0) -> 24; account(2) -> 1; account(4) -> 0; account(7) -> 1
            """);
    }

    private static void items() {
        Calls.run("31: repeats do it so many times", """
            append "(r01)3" -> 6; read() -> 3; where(0) -> 3; append "(r01)3'" -> 7; read() -> 3; account(0) -> 32
            append "(r01c01)2" -> 9; read() -> 4; where(6) -> 8; where(7) -> 16
            """);
        Calls.run("31: the inverse of a sequence is done from its end", """
            append "(r01c01)2" -> 9; read() -> 4; append "(r01c01)2'" -> 10; read() -> 4; account(0) -> 32
            append "(r01c01)2'" -> 10; read() -> 4; append "(r01c01)2" -> 9; read() -> 4; account(0) -> 32
            append "(r01c01)2'" -> 10; read() -> 4; append "((r01c01)2)2" -> 12; read() -> 8
            append "(c03r07)2" -> 9; read() -> 4; account(0) -> 32
            """);
        Calls.run("31: commutators, one in another, and their inverses", """
            append "[r01,c01]" -> 9; read() -> 4; where(0) -> 24; where(24) -> 7; where(7) -> 0
            append "[r01,c01]'" -> 10; read() -> 4; account(0) -> 32
            append "[r01,c01]" -> 9; read() -> 4; append "[c01,r01]" -> 9; read() -> 4; account(0) -> 32
            append "[[r01,c01],c71]" -> 15; read() -> 10; append "[c71,[r01,c01]]" -> 15; read() -> 10
            account(0) -> 32
            append "[r01r02,c01c02]" -> 15; read() -> 8; append "[r03,c03]'" -> 10; read() -> 4; account(0) -> 32
            """);
        Calls.run("31: a shelf does what is on it", """
            append "r01" -> 3; learn(4) -> 1; append "s4s4" -> 4; read() -> 2; where(0) -> 2
            append "(s4)2'" -> 6; read() -> 2; account(0) -> 32; append "s4'" -> 3; read() -> 1; where(0) -> 7
            append "[s4,c01]" -> 8; learn(0) -> 4; cycleLine(0) -> 8; written -> "(0 24 7)"
            """);
    }

    private static void counts() {
        Calls.run("length: what counts how much", """
            append "r01c01'r11" -> 10; learn(0) -> 3; append "(r01c01)9" -> 9; learn(1) -> 18
            append "[r01c01,r11]" -> 12; learn(1) -> 6; append "s0" -> 2; learn(1) -> 1; append "(s0s0)4" -> 7
            learn(1) -> 8; append "[(r01)3,c01]'r11" -> 16; learn(1) -> 9; append "([r01,c01])3" -> 12; learn(1) -> 12
            """);
        Calls.run("length: 200 is taken and more is not", """
            append "((r01c01)5)5((r01c01)5)5((r01c01)5)5((r01c01)5)5" -> 48; learn(0) -> 200
            append "((r01c01)5)5((r01c01)5)5((r01c01)5)5((r01c01)5)5" -> 48; read() -> 200
            append "((r01c01)5)5((r01c01)5)5((r01c01)5)5((r01c01)5)5r01" -> 51
            learn(0) -> throws UnsupportedOperationException
            append "((r01c01)5)5((r01c01)5)5((r01c01)5)5((r01c01)5)5s0" -> 50
            read() -> throws UnsupportedOperationException
            refusal(false) -> 2; refusal(true) -> 200; errorPosition() -> throws NoSuchElementException
            account(7) -> 2; account(4) -> 1
            """);
        Calls.run("length: far too much", """
            append "((((r01r02r03r04r05r06r07r01r02r03r04r05r06r07r01r02)9)9)9)9" -> 60
            read() -> throws UnsupportedOperationException; refusal(true) -> 200; account(0) -> 32
            """);
    }

    private static void wrongAtAnItem() {
        wrong("", 0);
        wrong("x", 0);
        wrong(" ", 0);
        wrong("'", 0);
        wrong("R01", 0);
        wrong("0", 0);
        wrong(")", 0);
        wrong(",", 0);
        wrong("]", 0);
        wrong("r", 1);
        wrong("r4", 1);
        wrong("r-1", 1);
        wrong("r9x", 1);
        wrong("r0", 2);
        wrong("r00", 2);
        wrong("r08", 2);
        wrong("r39", 2);
        wrong("r0'", 2);
        wrong("r01x", 3);
        wrong("r011", 3);
        wrong("r01 r01", 3);
        wrong("r01''", 4);
        wrong("r01')", 4);
        wrong("r01)", 3);
        wrong("r01]", 3);
        wrong("r01,c01", 3);
        wrong("c", 1);
        wrong("c8", 1);
        wrong("c9", 1);
        wrong("c/1", 1);
        wrong("c:1", 1);
        wrong("c0", 2);
        wrong("c00", 2);
        wrong("c04", 2);
        wrong("c79", 2);
        wrong("r01c", 4);
        wrong("r01\u01301", 3);
    }

    private static void wrongWithin() {
        wrong("(", 1);
        wrong("()2", 1);
        wrong("(2", 1);
        wrong("(r01", 4);
        wrong("(r01'", 5);
        wrong("(r01]", 4);
        wrong("(r01,", 4);
        wrong("(r01)", 5);
        wrong("(r01)0", 5);
        wrong("(r01)1", 5);
        wrong("(r01)'", 5);
        wrong("(r01):", 5);
        wrong("(r01)22", 6);
        wrong("(r01)2''", 7);
        wrong("(r01)2)", 6);
        wrong("[", 1);
        wrong("[]", 1);
        wrong("[,r11]", 1);
        wrong("[r01", 4);
        wrong("[r01]", 4);
        wrong("[r01)", 4);
        wrong("[r01,", 5);
        wrong("[r01,]", 5);
        wrong("[r01,c01", 8);
        wrong("[r01,c01,", 8);
        wrong("[r01,c01)", 8);
        wrong("[r01,c01]2", 9);
        wrong("[r01,c01]''", 10);
        wrong("[(r01,c01)2]", 5);
        wrong("([r01,c01]", 10);
        wrong("(((r01)9)9)9x", 12);
    }

    private static void depths() {
        Calls.run("four within one another are right", """
            append "((((r01)2)2)2)2" -> 15; read() -> 16; account(0) -> 32
            append "[[[[r01,c01],c11],c21],c31]" -> 27; read() -> 46; append "([([r01,c01])2,c71])2" -> 21
            learn(0) -> 36; append "(((((" -> 5; read() -> throws IllegalArgumentException; errorPosition() -> 4
            append "(r01)2(((r01)2)2)2" -> 18; read() -> 10
            """);
        wrong("(((((r01)2)2)2)2)2", 4);
        wrong("[[[[[r01,c01],c11],c21],c31],c41]", 4);
        wrong("([([(", 4);
        wrong("((((r01)2)2)2(((r01", 19);
        wrong("((((r01)2)2)2((((r01", 16);
        wrong("((((r01)2(", 10);
        wrong("((((r01)2((", 10);
        wrong("[r01,[r01,[r01,[r01,(", 20);
    }

    private static void shelves() {
        wrong("s", 1);
        wrong("s0", 1);
        wrong("s4", 1);
        wrong("s5", 1);
        wrong("s'", 1);
        wrong("r01s0'", 4);
        Calls.run("a shelf on which there is nothing cannot continue", """
            append "r01" -> 3; learn(1) -> 1; append "s1s0" -> 4; read() -> throws IllegalArgumentException
            errorPosition() -> 3; append "s1s" -> 3; read() -> throws IllegalArgumentException; errorPosition() -> 3
            append "s1" -> 2; forget(1) -> 0; read() -> throws IllegalArgumentException; errorPosition() -> 1
            append "s2" -> 2; undo() -> 1; read() -> throws IllegalArgumentException; errorPosition() -> 1
            append "s1" -> 2; read() -> 1; where(0) -> 1
            """);
    }

    private static void errorPosition() {
        Calls.run("32: the error position is kept, whatever comes next", """
            errorPosition() -> throws NoSuchElementException; append "r01" -> 3; read() -> 1
            errorPosition() -> throws NoSuchElementException; append "r01x" -> 4
            read() -> throws IllegalArgumentException; errorPosition() -> 3; append "r01" -> 3; learn(0) -> 1
            errorPosition() -> 3; append "c0" -> 2; learn(0) -> throws IllegalArgumentException; errorPosition() -> 2
            save() -> 24; undo() -> 1; restore() -> 24; errorPosition() -> 2
            """);
    }

    /** Both read and learn tell the same place, and nothing is done. */
    private static void wrong(String text, int place) {
        String append = text.isEmpty() ? "" : "append \"" + text + "\" -> " + text.length() + "\n";
        String told = " -> throws IllegalArgumentException\nerrorPosition() -> " + place + "\naccount(6) -> 0\n";
        Calls.run("a wrong text, read", append + "read()" + told + "account(7) -> 0\naccount(4) -> 0");
        Calls.run("a wrong text, learnt", append + "learn(0)" + told + "account(7) -> 0\naccount(5) -> 0");
    }
}
