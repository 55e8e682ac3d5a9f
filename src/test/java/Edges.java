/** What the edge tests share: each says which words of the document it tests. */
abstract class Edges extends Checks {
    private static final Sentences SENTENCES = new Sentences();

    /** The answers from here on are due by these words of a promise. */
    static void promise(int number, String words) {
        SENTENCES.quote(number, words);
        about("promise " + number + ", '" + words + "'");
    }

    /** Likewise of the document's terms. */
    static void term(String words) {
        SENTENCES.quote(Sentences.TERMS, words);
        about("terms, '" + words + "'");
    }

    static void tellUnquoted() {
        SENTENCES.tellRest();
        wrong += SENTENCES.wrong;
    }
}
