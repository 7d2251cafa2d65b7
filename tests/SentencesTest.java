/** Each sentence of "Terms" beside every call that it speaks of, in rows as the document writes its examples. */
public final class SentencesTest {
    public static void main(String[] args) {
        Check check = new Check("SentencesTest");
        Sentences sentences = new Sentences(check);
        TablesGuestsSentences.all(sentences);
        SeatsConditionsSentences.all(sentences);
        OrdersSentences.all(sentences);
        EveningsSentences.all(sentences);
        sentences.everySentenceIsHeld();
        check.end();
    }
}
