import java.util.function.Supplier;

/**
 * Each error and each NONE of each call, with every number too small and too large: a call that is
 * refused leaves everything as it was, and where several errors apply the first of the order is told.
 */
public final class RefusedTest {
    private static final int UNKNOWN = VotedLabels.UNKNOWN;
    private static final int BAD_VALUE = VotedLabels.BAD_VALUE;
    private static final int FULL = VotedLabels.FULL;
    private static final int NOT_POSSIBLE = VotedLabels.NOT_POSSIBLE;
    private static final int NONE = VotedLabels.NONE;
    private static final int TOO_LONG = VotedLabels.TOO_LONG;

    private static final int[] NO_ROOMS = {-1, 4, Integer.MIN_VALUE, Integer.MAX_VALUE};
    private static final int[] NO_TONGUES = {-1, 3, Integer.MIN_VALUE, Integer.MAX_VALUE};
    private static final int[] NO_WORKS = {-1, 8, Integer.MIN_VALUE, Integer.MAX_VALUE};
    private static final int[] NO_VISITORS = {-1, 10, Integer.MIN_VALUE, Integer.MAX_VALUE};
    private static final int[] NO_LIMITS = {0, 16, -1, Integer.MIN_VALUE, Integer.MAX_VALUE};
    private static final int[] NO_NEEDED = {0, 10, -1, Integer.MIN_VALUE, Integer.MAX_VALUE};
    /** Of the rich gallery: 0 was accepted, 5 is not given yet. */
    private static final int[] NO_REWRITES = {0, 5, -1, Integer.MIN_VALUE, Integer.MAX_VALUE};

    private static final Supplier<VotedLabels> RICH = () -> Galleries.rich("x y");

    public static void main(String[] args) {
        setLimit();
        ask();
        bring();
        label();
        labelOfFaultyTexts();
        takeDown();
        setNeeded();
        rewrite();
        rewriteOfFaultyTexts();
        rewriteIsFull();
        vote();
        typeIsFull();
        nothingToUndo();
        nothingToRestore();
        tellingLabels();
        tellingRewrites();
        tellingRoomsAndVisitors();
        tellingLabelsWith();
        tellingCounts();
        Due.end();
    }

    private static void setLimit() {
        for (int room : NO_ROOMS) {
            Refused.is("setLimit of the room " + room, RICH, x -> x.setLimit(room, 5), UNKNOWN);
        }
        for (int limit : NO_LIMITS) {
            Refused.is("setLimit to " + limit, RICH, x -> x.setLimit(0, limit), BAD_VALUE);
            Refused.is("setLimit of no room to " + limit, RICH, x -> x.setLimit(4, limit), UNKNOWN);
        }
        Refused.is("setLimit as it is at first", RICH, x -> x.setLimit(2, 10), NONE);
        Refused.is("setLimit as it was set", RICH, x -> x.setLimit(0, 3), NONE);
    }

    private static void ask() {
        for (int room : NO_ROOMS) {
            Refused.is("ask in the room " + room, RICH, x -> x.ask(room, 0, false), UNKNOWN);
        }
        for (int tongue : NO_TONGUES) {
            Refused.is("ask for the tongue " + tongue, RICH, x -> x.ask(0, tongue, true), UNKNOWN);
            Refused.is("ask no more for " + tongue, RICH, x -> x.ask(0, tongue, false), UNKNOWN);
        }
        Refused.is("ask as at first", RICH, x -> x.ask(0, 0, true), NONE);
        Refused.is("ask not as at first", RICH, x -> x.ask(0, 2, false), NONE);
        Refused.is("ask as was set", RICH, x -> x.ask(1, 2, true), NONE);
    }

    private static void bring() {
        for (int work : NO_WORKS) {
            Refused.is("bring the work " + work, RICH, x -> x.bring(work, 1), UNKNOWN);
        }
        for (int room : NO_ROOMS) {
            Refused.is("bring to the room " + room, RICH, x -> x.bring(0, room), UNKNOWN);
        }
        Refused.is("bring where it is at first", RICH, x -> x.bring(5, 1), NONE);
        Refused.is("bring where it was brought", RICH, x -> x.bring(6, 3), NONE);
    }

    private static void label() {
        for (int work : NO_WORKS) {
            Refused.is("label the work " + work, RICH, x -> x.label(work, 0), UNKNOWN);
        }
        for (int tongue : NO_TONGUES) {
            Refused.is("label in the tongue " + tongue, RICH, x -> x.label(0, tongue), UNKNOWN);
        }
        Refused.is("label of one word too many", () -> Galleries.rich("a b c d"), x -> x.label(4, 0), TOO_LONG);
        Refused.is("label of 11 words", () -> Galleries.rich(Galleries.words(11)), x -> x.label(2, 0), TOO_LONG);
        Refused.is("label of 30 words", () -> Galleries.rich(Galleries.words(30)), x -> x.label(0, 0), TOO_LONG);
        Refused.is("the label already, a visitor's", () -> Galleries.rich("q r"), x -> x.label(0, 0), NONE);
        Refused.is("the label already, a cut one", () -> Galleries.rich("p q r"), x -> x.label(5, 2), NONE);
    }

    private static void labelOfFaultyTexts() {
        Refused.is("label of no text", () -> Galleries.rich(""), x -> x.label(0, 0), -100);
        Refused.is("label of a blank at the end", () -> Galleries.rich("x "), x -> x.label(0, 0), -102);
        Refused.is("label of a sign", () -> Galleries.rich("x-y"), x -> x.label(0, 0), -101);
        Refused.is("a fault ahead of too long", () -> Galleries.rich("a b c d "), x -> x.label(0, 0), -108);
        Refused.is("no work ahead of a fault", () -> Galleries.rich(""), x -> x.label(8, 0), UNKNOWN);
        Refused.is("no tongue ahead of a fault", () -> Galleries.rich("X"), x -> x.label(0, 3), UNKNOWN);
        Refused.is("no work ahead of too long", () -> Galleries.rich("a b c d"), x -> x.label(-1, 0), UNKNOWN);
    }

    private static void takeDown() {
        for (int work : NO_WORKS) {
            Refused.is("takeDown of the work " + work, RICH, x -> x.takeDown(work, 0), UNKNOWN);
        }
        for (int tongue : NO_TONGUES) {
            Refused.is("takeDown in the tongue " + tongue, RICH, x -> x.takeDown(0, tongue), UNKNOWN);
        }
        Refused.is("takeDown where there was none", RICH, x -> x.takeDown(3, 0), NONE);
        Refused.is("takeDown twice", RICH, x -> x.takeDown(6, 1), NONE);
    }

    private static void setNeeded() {
        for (int votes : NO_NEEDED) {
            Refused.is("setNeeded to " + votes, RICH, x -> x.setNeeded(votes), BAD_VALUE);
        }
        Refused.is("setNeeded as it was set", RICH, x -> x.setNeeded(1), NONE);
        Refused.is("setNeeded as it is at first", VotedLabels::new, x -> x.setNeeded(2), NONE);
    }

    private static void rewrite() {
        for (int visitor : NO_VISITORS) {
            Refused.is("rewrite by the visitor " + visitor, RICH, x -> x.rewrite(visitor, 0, 0), UNKNOWN);
        }
        for (int work : NO_WORKS) {
            Refused.is("rewrite for the work " + work, RICH, x -> x.rewrite(2, work, 0), UNKNOWN);
        }
        for (int tongue : NO_TONGUES) {
            Refused.is("rewrite in the tongue " + tongue, RICH, x -> x.rewrite(2, 0, tongue), UNKNOWN);
        }
        Refused.is("rewrite of one word too many", () -> Galleries.rich("a b c d"), x -> x.rewrite(2, 0, 0),
                TOO_LONG);
        Refused.is("rewrite of 11 words", () -> Galleries.rich(Galleries.words(11)), x -> x.rewrite(2, 2, 0),
                TOO_LONG);
        Refused.is("rewrite of 30 words", () -> Galleries.rich(Galleries.words(30)), x -> x.rewrite(2, 0, 0),
                TOO_LONG);
        Refused.is("rewrite as the label is", () -> Galleries.rich("q r"), x -> x.rewrite(5, 0, 0), NOT_POSSIBLE);
        Refused.is("rewrite as the label is, in the place of one", () -> Galleries.rich("p q r"),
                x -> x.rewrite(1, 5, 2), NOT_POSSIBLE);
    }

    private static void rewriteOfFaultyTexts() {
        Refused.is("rewrite of no text", () -> Galleries.rich(""), x -> x.rewrite(2, 0, 0), -100);
        Refused.is("rewrite of a blank at the end", () -> Galleries.rich("x "), x -> x.rewrite(2, 0, 0), -102);
        Refused.is("rewrite of two blanks", () -> Galleries.rich("x  y"), x -> x.rewrite(2, 0, 0), -102);
        Refused.is("a fault ahead of too long", () -> Galleries.rich("a b c d "), x -> x.rewrite(2, 0, 0), -108);
        Refused.is("no visitor ahead of a fault", () -> Galleries.rich(""), x -> x.rewrite(10, 0, 0), UNKNOWN);
        Refused.is("no work ahead of a fault", () -> Galleries.rich("X"), x -> x.rewrite(2, 8, 0), UNKNOWN);
        Refused.is("no tongue ahead of too long", () -> Galleries.rich("a b c d"), x -> x.rewrite(2, 0, -1),
                UNKNOWN);
    }

    private static void rewriteIsFull() {
        Refused.is("a rewrite more than 16", () -> Galleries.withSixteenRewrites("x"), x -> x.rewrite(0, 0, 2), FULL);
        Refused.is("by the visitor of another work's", () -> Galleries.withSixteenRewrites("x"),
                x -> x.rewrite(0, 1, 0), FULL);
        Refused.is("for a work of another visitor's", () -> Galleries.withSixteenRewrites("x"),
                x -> x.rewrite(1, 0, 0), FULL);
        Refused.is("no tongue ahead of full", () -> Galleries.withSixteenRewrites("x"), x -> x.rewrite(0, 0, 3),
                UNKNOWN);
        Refused.is("a fault ahead of full", () -> Galleries.withSixteenRewrites("x "), x -> x.rewrite(0, 0, 2),
                -102);
        Refused.is("too long ahead of full", () -> Galleries.withSixteenRewrites(Galleries.words(11)),
                x -> x.rewrite(0, 0, 2), TOO_LONG);
        Refused.is("not possible ahead of full", RefusedTest::withSixteenRewritesAndALabel,
                x -> x.rewrite(0, 0, 2), NOT_POSSIBLE);
        Refused.is("a rewrite more than 200", Galleries::withTwoHundredSoFar, x -> x.rewrite(0, 0, 0), FULL);
        Refused.is("the same visitor's for another tongue", Galleries::withTwoHundredSoFar,
                x -> x.rewrite(5, 5, 0), FULL);
        Refused.is("in the place of the 200th", Galleries::withTwoHundredSoFar, x -> x.rewrite(5, 5, 1), FULL);
        Refused.is("no visitor ahead of 200", Galleries::withTwoHundredSoFar, x -> x.rewrite(10, 5, 1), UNKNOWN);
    }

    private static VotedLabels withSixteenRewritesAndALabel() {
        VotedLabels x = Galleries.withSixteenRewrites("x");
        x.label(0, 2);
        return x;
    }

    private static void vote() {
        for (int visitor : NO_VISITORS) {
            Refused.is("vote by the visitor " + visitor, RICH, x -> x.vote(visitor, 1, true), UNKNOWN);
            Refused.is("no vote by the visitor " + visitor, RICH, x -> x.vote(visitor, 1, false), UNKNOWN);
        }
        for (int rewrite : NO_REWRITES) {
            Refused.is("vote for the rewrite " + rewrite, RICH, x -> x.vote(5, rewrite, true), UNKNOWN);
            Refused.is("no vote for the rewrite " + rewrite, RICH, x -> x.vote(5, rewrite, false), UNKNOWN);
        }
        Refused.is("vote for one's own", RICH, x -> x.vote(2, 1, true), NOT_POSSIBLE);
        Refused.is("not possible ahead of so already", RICH, x -> x.vote(2, 1, false), NOT_POSSIBLE);
        Refused.is("vote twice", RICH, x -> x.vote(3, 1, true), NONE);
        Refused.is("no vote to take back", RICH, x -> x.vote(5, 1, false), NONE);
        Refused.is("the vote is for another", RICH, x -> x.vote(6, 1, false), NONE);
    }

    private static void typeIsFull() {
        String longest = "abcdefghi ".repeat(5) + "abcdefghij";
        Refused.is("the 61st character", () -> Galleries.rich(longest), x -> x.type('z'), FULL);
        Refused.is("a blank as the 61st", () -> Galleries.rich(longest), x -> x.type(' '), FULL);
        VotedLabels x = new VotedLabels();
        Due.text(x, longest);
        Due.is("the 61st", x.type('z'), FULL);
        Due.is("words", x.label(0, 0), 6);
        Due.shows(x, 0, 0, longest);
    }

    private static void nothingToUndo() {
        Refused.is("undo of nothing", VotedLabels::new, VotedLabels::undo, NONE);
        Refused.is("undo of all that there were", RefusedTest::withoutHistory, VotedLabels::undo, NONE);
    }

    private static VotedLabels withoutHistory() {
        VotedLabels x = Galleries.rich("x y");
        while (x.undo() > 0) {
            x.count(10);
        }
        return x;
    }

    private static void nothingToRestore() {
        Refused.is("restore of nothing", VotedLabels::new, VotedLabels::restore, NONE);
        Refused.is("restore without a snapshot", () -> Galleries.withSixteenRewrites("x"), VotedLabels::restore,
                NONE);
    }

    private static void tellingLabels() {
        for (int work : NO_WORKS) {
            Refused.is("labelOf the work " + work, RICH, x -> x.labelOf(work, 0, 0), UNKNOWN);
            Refused.is("letter of the work " + work, RICH, x -> x.letter(work, 0, 0), UNKNOWN);
            Refused.is("ranked of the work " + work, RICH, x -> x.ranked(work, 0, 0), UNKNOWN);
        }
        for (int tongue : NO_TONGUES) {
            Refused.is("labelOf the tongue " + tongue, RICH, x -> x.labelOf(0, tongue, 0), UNKNOWN);
            Refused.is("letter of the tongue " + tongue, RICH, x -> x.letter(0, tongue, 0), UNKNOWN);
            Refused.is("ranked of the tongue " + tongue, RICH, x -> x.ranked(0, tongue, 0), UNKNOWN);
        }
        for (int what : new int[] {-1, 5, Integer.MIN_VALUE, Integer.MAX_VALUE}) {
            Refused.is("labelOf(.., " + what + ")", RICH, x -> x.labelOf(0, 0, what), BAD_VALUE);
            Refused.is("bad ahead of none: " + what, RICH, x -> x.labelOf(3, 1, what), BAD_VALUE);
            Refused.is("unknown ahead of bad: " + what, RICH, x -> x.labelOf(8, 1, what), UNKNOWN);
        }
        for (int index : new int[] {-1, Integer.MIN_VALUE}) {
            Refused.is("letter " + index, RICH, x -> x.letter(0, 0, index), BAD_VALUE);
            Refused.is("letter of none " + index, RICH, x -> x.letter(3, 1, index), BAD_VALUE);
            Refused.is("letter of no tongue " + index, RICH, x -> x.letter(0, 3, index), UNKNOWN);
            Refused.is("rank " + index, RICH, x -> x.ranked(0, 0, index), BAD_VALUE);
            Refused.is("rank of none " + index, RICH, x -> x.ranked(3, 1, index), BAD_VALUE);
            Refused.is("rank of no work " + index, RICH, x -> x.ranked(8, 0, index), UNKNOWN);
        }
        Refused.is("letter behind the label", RICH, x -> x.letter(0, 0, 3), NONE);
        Refused.is("letter without a label", RICH, x -> x.letter(3, 1, 0), NONE);
        Refused.is("letter at the largest index", RICH, x -> x.letter(0, 0, Integer.MAX_VALUE), NONE);
        Refused.is("rank behind the last", RICH, x -> x.ranked(0, 0, 2), NONE);
        Refused.is("rank of none", RICH, x -> x.ranked(3, 1, 0), NONE);
        Refused.is("the largest rank", RICH, x -> x.ranked(0, 0, Integer.MAX_VALUE), NONE);
    }

    private static void tellingRewrites() {
        for (int rewrite : NO_REWRITES) {
            Refused.is("rewriteOf " + rewrite, RICH, x -> x.rewriteOf(rewrite, 0), UNKNOWN);
            Refused.is("unknown ahead of bad: " + rewrite, RICH, x -> x.rewriteOf(rewrite, 8), UNKNOWN);
        }
        for (int what : new int[] {-1, 8, Integer.MIN_VALUE, Integer.MAX_VALUE}) {
            Refused.is("rewriteOf(.., " + what + ")", RICH, x -> x.rewriteOf(1, what), BAD_VALUE);
        }
    }

    private static void tellingRoomsAndVisitors() {
        for (int room : NO_ROOMS) {
            Refused.is("room " + room, RICH, x -> x.room(room, 0), UNKNOWN);
            Refused.is("unknown ahead of bad, room " + room, RICH, x -> x.room(room, 7), UNKNOWN);
        }
        for (int what : new int[] {-1, 7, Integer.MIN_VALUE, Integer.MAX_VALUE}) {
            Refused.is("room(.., " + what + ")", RICH, x -> x.room(0, what), BAD_VALUE);
        }
        for (int visitor : NO_VISITORS) {
            Refused.is("visitor " + visitor, RICH, x -> x.visitor(visitor, 0), UNKNOWN);
            Refused.is("unknown ahead of bad, visitor " + visitor, RICH, x -> x.visitor(visitor, 4), UNKNOWN);
        }
        for (int what : new int[] {-1, 4, Integer.MIN_VALUE, Integer.MAX_VALUE}) {
            Refused.is("visitor(.., " + what + ")", RICH, x -> x.visitor(0, what), BAD_VALUE);
        }
    }

    private static void tellingLabelsWith() {
        for (int tongue : NO_TONGUES) {
            Refused.is("labelsWith " + tongue, RICH, x -> x.labelsWith(tongue), UNKNOWN);
            Refused.is("unknown ahead of a fault, " + tongue, () -> Galleries.rich(""), x -> x.labelsWith(tongue),
                    UNKNOWN);
        }
        Refused.is("labelsWith no text", () -> Galleries.rich(""), x -> x.labelsWith(0), -100);
        Refused.is("labelsWith a blank at the end", () -> Galleries.rich("q "), x -> x.labelsWith(0), -102);
        Refused.is("labelsWith a digit", () -> Galleries.rich("q r 7"), x -> x.labelsWith(0), -104);
    }

    private static void tellingCounts() {
        for (int what : new int[] {-1, 12, Integer.MIN_VALUE, Integer.MAX_VALUE}) {
            Refused.is("count(" + what + ")", RICH, x -> x.count(what), BAD_VALUE);
        }
    }
}
