/** The classes whose methods are the tests of sentences. */
final class Parts {
    static final Class<?>[] ALL = {TownSentences.class, DeedSentences.class, VoteSentences.class,
        LikingSentences.class, KindSentences.class, RefusalSentences.class};

    private Parts() {
    }
}
