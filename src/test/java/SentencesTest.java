/** Each sentence of the terms and of the promises 1 to 40, with its boundary cases, in a test of its own. */
public final class SentencesTest {
    public static void main(String[] arguments) {
        TermsSentences.check();
        MovesSentences.check();
        SlotsSentences.check();
        ShelvesSentences.check();
        LinesSentences.check();
        AccountsSentences.check();
        Sentences.end();
    }
}
