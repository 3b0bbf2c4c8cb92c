/** Galleries of many kinds of things, for tests that compare all of them. */
final class Galleries {
    private Galleries() {
    }

    /** As many words as are asked for, of one letter each, with one blank between two; at most 30. */
    static String words(int size) {
        StringBuilder words = new StringBuilder();
        for (int i = 0; i < size; i++) {
            words.append(i == 0 ? "" : " ").append((char) ('a' + i % 26));
        }
        return words.toString();
    }

    /**
     * Labels of a visitor and others, cut ones, rewrites with votes (0 is accepted, 1 to 4 are there),
     * a snapshot, a history of four states, and the text that is asked for.
     */
    static VotedLabels rich(String text) {
        VotedLabels x = new VotedLabels();
        Due.text(x, "p q r s");
        x.label(0, 0);
        x.label(5, 2);
        x.label(6, 1);
        Due.text(x, "q r");
        x.rewrite(1, 0, 0);
        x.rewrite(2, 0, 0);
        x.rewrite(1, 5, 2);
        x.vote(3, 0, true);
        x.vote(4, 0, true);
        x.endWeek();
        x.vote(3, 1, true);
        x.vote(6, 1, true);
        x.vote(2, 2, true);
        x.ask(1, 2, true);
        x.keep();
        x.setNeeded(1);
        x.rewrite(9, 7, 1);
        Due.text(x, "s");
        x.rewrite(3, 0, 0);
        x.bring(6, 3);
        x.setLimit(1, 3);
        x.setLimit(0, 3);
        x.vote(6, 4, true);
        x.takeDown(6, 1);
        Due.text(x, text);
        return x;
    }

    /** Sixteen rewrites: i of the visitor i % 10 for the work i % 8, in the tongues 0 and 1. */
    static VotedLabels withSixteenRewrites(String text) {
        VotedLabels x = new VotedLabels();
        Due.text(x, "q");
        for (int i = 0; i < 16; i++) {
            x.rewrite(i % 10, i % 8, i / 8);
        }
        x.vote(9, 3, true);
        Due.text(x, text);
        return x;
    }

    /** Two hundred rewrites so far, of which the last, 199 of the visitor 5 for 5 and 1, is there. */
    static VotedLabels withTwoHundredSoFar() {
        VotedLabels x = new VotedLabels();
        Due.text(x, "q");
        for (int i = 0; i < 200; i++) {
            x.rewrite(5, 5, 1);
        }
        return x;
    }
}
