import java.util.ArrayList;
import java.util.List;

/** The document's sentences that name a boundary case, each with a test of its own. */
final class Boundaries {
    /** A sentence as it stands in DOC.md, and what must hold for it. */
    static final class Sentence {
        final String id;
        final String words;
        final Runnable test;

        private Sentence(String id, String words, Runnable test) {
            this.id = id;
            this.words = words;
            this.test = test;
        }
    }

    private final List<Sentence> sentences = new ArrayList<>();

    private Boundaries() {
    }

    static List<Sentence> all() {
        Boundaries all = new Boundaries();
        RoomsBoundaries.addTo(all);
        LawBoundaries.addTo(all);
        RoundsBoundaries.addTo(all);
        PartyBoundaries.addTo(all);
        DeedBoundaries.addTo(all);
        ShelfBoundaries.addTo(all);
        AnswersBoundaries.addTo(all);
        return all.sentences;
    }

    void add(String id, String words, Runnable test) {
        sentences.add(new Sentence(id, words, test));
    }

    /** Runs one sentence's test: how many of its answers are wrong. Asked by BrokenSentences, too. */
    static int wrongOf(String id) {
        int before = Due.wrong();
        for (Sentence sentence : all()) {
            if (sentence.id.equals(id)) {
                Due.about(id);
                sentence.test.run();
            }
        }
        return Due.wrong() - before;
    }

    /** An object with a guest in each of these rooms, for good. */
    static GoodbyeAll guestsIn(int... rooms) {
        GoodbyeAll x = new GoodbyeAll();
        for (int room : rooms) {
            x.guest(11 * room, 0);
        }
        return x;
    }

    /** An object with so many guests in the hall. */
    static GoodbyeAll inTheHall(int many) {
        return guestsIn(new int[many]);
    }

    /** Every number just outside least .. greatest, and far outside. */
    static int[] outside(int least, int greatest) {
        return new int[] {least - 1, greatest + 1, Integer.MIN_VALUE, Integer.MAX_VALUE};
    }
}
