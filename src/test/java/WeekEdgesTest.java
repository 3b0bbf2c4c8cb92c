/** The edges of rewrites, votes and weeks: the first and the last, just enough and just too few. */
public final class WeekEdgesTest {
    private static final int UNKNOWN = VotedLabels.UNKNOWN;
    private static final int NOT_POSSIBLE = VotedLabels.NOT_POSSIBLE;
    private static final int FULL = VotedLabels.FULL;
    private static final int NONE = VotedLabels.NONE;

    public static void main(String[] args) {
        thereAreNoRewritesAtFirst();
        eachVisitorRewritesEachWorkInEachTongue();
        sixteenAtATime();
        sixteenAllForOneWork();
        numbersAreNeverGivenAgain();
        twoHundredEver();
        twoHundredStaysFullWhenRewritesGo();
        aRewriteKeepsItsWordsAsLimitsFall();
        aVisitorHasOneForAWorkAndATongue();
        aRewriteThatIsAlmostTheLabel();
        aVisitorHasOneVoteForAWorkAndATongue();
        aVoterWhoHandsInARewriteKeepsTheVote();
        nobodyVotesForTheirOwn();
        allNineOthersVote();
        votesOfRewritesThatAreGoneAreGone();
        aVoteCanBeCastAnewWhenItsRewriteIsGone();
        neededIsTwoAtFirst();
        neededIsOneToNine();
        justAsManyVotesAsNeeded();
        justAsLongAsTheLimit();
        theLowestNumberOfAlikeOnes();
        theFewestWordsOfEqualVotes();
        theMostVotesBeforeTheFewestWords();
        oneForEachWorkAndTongueInAWeek();
        threeWeeksOldAreGone();
        sixteenFallAwayAtOnce();
        acceptedInTheLastWeekDidNotFallAway();
        aRewriteInThePlaceOfOneIsYoung();
        weeksAreCountedFromZero();
        aWeekWithoutRewrites();
        Due.end();
    }

    private static VotedLabels withText(String text) {
        VotedLabels x = new VotedLabels();
        Due.text(x, text);
        return x;
    }

    private static void votes(VotedLabels x, int rewrite, int... visitors) {
        for (int visitor : visitors) {
            x.vote(visitor, rewrite, true);
        }
    }

    private static void thereAreNoRewritesAtFirst() {
        VotedLabels x = new VotedLabels();
        for (int number = -1; number <= 200; number++) {
            Due.is("rewriteOf", x.rewriteOf(number, 0), UNKNOWN);
        }
        for (int visitor = 0; visitor < 10; visitor++) {
            Due.is("vote", x.vote(visitor, 0, true), UNKNOWN);
            Due.is("rewrites", x.visitor(visitor, 0), 0);
        }
        for (int work = 0; work < 8; work++) {
            for (int tongue = 0; tongue < 3; tongue++) {
                Due.is("ranked", x.ranked(work, tongue, 0), NONE);
            }
        }
    }

    private static void eachVisitorRewritesEachWorkInEachTongue() {
        for (int visitor = 0; visitor < 10; visitor++) {
            for (int work = 0; work < 8; work++) {
                for (int tongue = 0; tongue < 3; tongue++) {
                    VotedLabels x = withText("a");
                    Due.is("the first number", x.rewrite(visitor, work, tongue), 0);
                    Due.is("work", x.rewriteOf(0, 0), work);
                    Due.is("tongue", x.rewriteOf(0, 1), tongue);
                    Due.is("visitor", x.rewriteOf(0, 2), visitor);
                    Due.is("ranked", x.ranked(work, tongue, 0), 0);
                    Due.is("a vote", x.vote((visitor + 1) % 10, 0, true), 1);
                    x.setNeeded(1);
                    Due.is("rewritten", x.endWeek(), 1);
                    Due.is("its label", x.labelOf(work, tongue, 2), visitor);
                    Due.is("accepted", x.visitor(visitor, 1), 1);
                    Due.is("stands", x.visitor(visitor, 3), 1);
                }
            }
        }
    }

    private static void sixteenAtATime() {
        VotedLabels x = withText("a");
        for (int i = 0; i < 16; i++) {
            Due.is("rewrites", x.count(1), i);
            Due.is("rewrite", x.rewrite(0, i / 2, i % 2), i);
        }
        Due.is("one too many", x.rewrite(0, 0, 2), FULL);
        Due.is("rewrites", x.count(1), 16);
        Due.is("rewrites of the visitor", x.visitor(0, 0), 16);
        Due.is("in the place of the first", x.rewrite(0, 0, 0), 16);
        Due.is("in the place of the last", x.rewrite(0, 7, 1), 17);
        Due.is("in the place of one between", x.rewrite(0, 4, 0), 18);
        Due.is("rewrites", x.count(1), 16);
        Due.is("still one too many", x.rewrite(1, 0, 0), FULL);
        x.setNeeded(1);
        x.vote(1, 3, true);
        Due.is("one is accepted", x.endWeek(), 1);
        Due.is("room for one", x.rewrite(1, 0, 0), 19);
        Due.is("and no more", x.rewrite(1, 1, 0), FULL);
    }

    private static void sixteenAllForOneWork() {
        VotedLabels x = withText("a");
        for (int i = 0; i < 16; i++) {
            x.rewrite(i % 10, 7, i / 10);
        }
        for (int rank = 0; rank < 10; rank++) {
            Due.is("rank", x.ranked(7, 0, rank), rank);
        }
        Due.is("the last rank", x.ranked(7, 0, 10), NONE);
        Due.is("the last rank of six", x.ranked(7, 1, 5), 15);
        Due.is("behind the last rank of six", x.ranked(7, 1, 6), NONE);
        votes(x, 9, 0);
        votes(x, 5, 1);
        Due.is("first by votes", x.ranked(7, 0, 0), 5);
        Due.is("second by votes", x.ranked(7, 0, 1), 9);
        Due.is("the last now", x.ranked(7, 0, 9), 8);
        Due.is("behind the last", x.ranked(7, 0, 10), NONE);
    }

    private static void numbersAreNeverGivenAgain() {
        VotedLabels x = withText("a");
        x.setNeeded(1);
        Due.is("from zero", x.rewrite(0, 0, 0), 0);
        Due.is("not that of one whose place it takes", x.rewrite(0, 0, 0), 1);
        votes(x, 1, 5);
        x.endWeek();
        Due.is("not that of one accepted", x.rewrite(0, 1, 0), 2);
        x.endWeek();
        x.endWeek();
        x.endWeek();
        Due.is("none is there", x.count(1), 0);
        Due.is("not that of one fallen away", x.rewrite(0, 1, 0), 3);
        Due.is("so far", x.count(2), 4);
        for (int number = 0; number < 3; number++) {
            Due.is("gone", x.rewriteOf(number, 0), UNKNOWN);
            Due.is("no vote for it", x.vote(4, number, true), UNKNOWN);
        }
    }

    private static void twoHundredEver() {
        VotedLabels x = withText("a");
        for (int i = 0; i < 199; i++) {
            x.rewrite(i % 2, 0, 0);
        }
        Due.is("so far", x.count(2), 199);
        Due.is("the 200th", x.rewrite(9, 7, 2), 199);
        Due.is("the 201st", x.rewrite(8, 7, 2), FULL);
        Due.is("in the place of the 200th", x.rewrite(9, 7, 2), FULL);
        Due.is("so far", x.count(2), 200);
        Due.is("rewrites", x.count(1), 3);
        Due.is("the largest number", x.rewriteOf(199, 0), 7);
        Due.is("a vote for it", x.vote(0, 199, true), 1);
        Due.is("one number larger", x.vote(0, 200, true), UNKNOWN);
        Due.is("it is ranked", x.ranked(7, 2, 0), 199);
    }

    private static void twoHundredStaysFullWhenRewritesGo() {
        VotedLabels x = Galleries.withTwoHundredSoFar();
        x.endWeek();
        x.endWeek();
        x.endWeek();
        Due.is("none is there", x.count(1), 0);
        Due.is("so far", x.count(2), 200);
        Due.is("full with none there", x.rewrite(0, 0, 0), FULL);
        Due.is("fell away", x.count(8), 1);
    }

    private static void aRewriteKeepsItsWordsAsLimitsFall() {
        VotedLabels x = withText("a b c");
        x.rewrite(0, 0, 0);
        Due.is("no label is cut", x.setLimit(0, 1), 0);
        Due.is("words", x.rewriteOf(0, 3), 3);
        x.setLimit(1, 2);
        Due.is("no label is cut", x.bring(0, 1), 0);
        Due.is("words", x.rewriteOf(0, 3), 3);
        Due.is("cut so far", x.count(9), 0);
    }

    private static void aVisitorHasOneForAWorkAndATongue() {
        VotedLabels x = withText("a");
        x.rewrite(3, 4, 1);
        votes(x, 0, 5, 6);
        x.rewrite(4, 4, 1);
        votes(x, 1, 7);
        Due.text(x, "b c");
        Due.is("a later one", x.rewrite(3, 4, 1), 2);
        Due.is("the earlier is gone", x.rewriteOf(0, 0), UNKNOWN);
        Due.is("rewrites", x.count(1), 2);
        Due.is("its votes are gone", x.count(3), 1);
        Due.is("the later has none", x.rewriteOf(2, 4), 0);
        Due.is("the later's words", x.rewriteOf(2, 3), 2);
        Due.is("the other one's vote stays", x.rewriteOf(1, 4), 1);
        Due.is("the other one is first", x.ranked(4, 1, 0), 1);
        Due.is("rewrites of the visitor", x.visitor(3, 0), 1);
    }

    private static void aRewriteThatIsAlmostTheLabel() {
        VotedLabels x = withText("a b c");
        x.label(0, 0);
        Due.is("word by word", x.rewrite(0, 0, 0), NOT_POSSIBLE);
        Due.is("of another tongue", x.rewrite(0, 0, 1), 0);
        Due.is("of another work", x.rewrite(0, 1, 0), 1);
        String[] others = {"a b", "a b c d", "a c b", "a b d", "ab c", "a bc", "abc", "a b cc"};
        for (int i = 0; i < others.length; i++) {
            Due.text(x, others[i]);
            Due.is("'" + others[i] + "'", x.rewrite(0, 0, 0), i + 2);
        }
        Due.text(x, "a b c");
        Due.is("also in the place of one", x.rewrite(0, 0, 0), NOT_POSSIBLE);
        Due.is("which stays", x.rewriteOf(9, 2), 0);
        x.takeDown(0, 0);
        Due.is("without the label", x.rewrite(0, 0, 0), 10);
    }

    private static void aVisitorHasOneVoteForAWorkAndATongue() {
        VotedLabels x = withText("a");
        for (int visitor = 0; visitor < 9; visitor++) {
            x.rewrite(visitor, 2, 2);
        }
        for (int number = 0; number < 9; number++) {
            Due.is("a vote", x.vote(9, number, true), 1);
            Due.is("votes", x.count(3), 1);
            Due.is("votes of the visitor", x.visitor(9, 2), 1);
        }
        Due.is("no vote for an earlier one", x.vote(9, 0, false), NONE);
        Due.is("taken back", x.vote(9, 8, false), 0);
        Due.is("votes", x.count(3), 0);
        Due.is("twice", x.vote(9, 8, false), NONE);
    }

    private static void aVoterWhoHandsInARewriteKeepsTheVote() {
        VotedLabels x = withText("a");
        x.rewrite(1, 3, 2);
        votes(x, 0, 5);
        Due.is("a rewrite of the voter", x.rewrite(5, 3, 2), 1);
        Due.is("the vote stays", x.rewriteOf(0, 4), 1);
        Due.is("another in its place", x.rewrite(5, 3, 2), 2);
        Due.is("the vote stays", x.rewriteOf(0, 4), 1);
        Due.is("not for one's own", x.vote(5, 2, true), NOT_POSSIBLE);
        Due.is("which takes no vote away", x.rewriteOf(0, 4), 1);
        Due.is("votes of the voter", x.visitor(5, 2), 1);
        Due.is("they vote for one another", x.vote(1, 2, true), 1);
        Due.is("votes", x.count(3), 2);
    }

    private static void nobodyVotesForTheirOwn() {
        for (int visitor = 0; visitor < 10; visitor++) {
            VotedLabels x = withText("a");
            x.rewrite(visitor, 0, 0);
            for (int voter = 0; voter < 10; voter++) {
                int others = voter < visitor ? voter + 1 : voter;
                Due.is("vote", x.vote(voter, 0, true), voter == visitor ? NOT_POSSIBLE : others);
                Due.is("votes of the voter", x.visitor(voter, 2), voter == visitor ? 0 : 1);
            }
            Due.is("taken back", x.vote(visitor, 0, false), NOT_POSSIBLE);
            Due.is("votes", x.rewriteOf(0, 4), 9);
        }
    }

    private static void allNineOthersVote() {
        VotedLabels x = withText("a");
        x.setNeeded(9);
        x.rewrite(4, 3, 1);
        votes(x, 0, 0, 1, 2, 3, 5, 6, 7, 8);
        Due.is("eight are too few", x.rewriteOf(0, 7), 0);
        Due.is("eight are too few", x.endWeek(), 0);
        Due.is("the ninth", x.vote(9, 0, true), 9);
        Due.is("enough", x.rewriteOf(0, 7), 1);
        Due.is("the ninth again", x.vote(9, 0, true), NONE);
        Due.is("all of them", x.count(3), 9);
        Due.is("rewritten", x.endWeek(), 1);
        Due.is("votes gone", x.count(3), 0);
    }

    private static void votesOfRewritesThatAreGoneAreGone() {
        VotedLabels x = withText("a");
        x.rewrite(0, 0, 0);
        x.rewrite(0, 1, 0);
        x.rewrite(0, 2, 0);
        votes(x, 0, 7, 8);
        votes(x, 1, 7);
        votes(x, 2, 7);
        Due.is("votes", x.visitor(7, 2), 3);
        x.endWeek();
        Due.is("of one accepted", x.visitor(7, 2), 2);
        Due.is("of one accepted", x.visitor(8, 2), 0);
        x.rewrite(0, 1, 0);
        Due.is("of one that gave its place", x.visitor(7, 2), 1);
        x.endWeek();
        x.endWeek();
        Due.is("of one fallen away", x.visitor(7, 2), 0);
        Due.is("votes", x.count(3), 0);
        Due.is("one is there", x.rewriteOf(3, 4), 0);
    }

    private static void aVoteCanBeCastAnewWhenItsRewriteIsGone() {
        VotedLabels x = withText("a");
        x.rewrite(0, 0, 0);
        votes(x, 0, 7);
        x.rewrite(0, 0, 0);
        Due.is("no vote to take back", x.vote(7, 1, false), NONE);
        Due.is("a vote", x.vote(7, 1, true), 1);
        Due.is("for one that is gone", x.vote(7, 0, false), UNKNOWN);
    }

    private static void neededIsTwoAtFirst() {
        Due.is("told", new VotedLabels().count(5), 2);
        Due.is("already", new VotedLabels().setNeeded(2), NONE);
        Due.is("one is another", new VotedLabels().setNeeded(1), 2);
        Due.is("three is another", new VotedLabels().setNeeded(3), 2);
        VotedLabels x = withText("a");
        x.rewrite(0, 0, 0);
        votes(x, 0, 1);
        Due.is("one vote is too few", x.endWeek(), 0);
        votes(x, 0, 2);
        Due.is("two are enough", x.endWeek(), 1);
    }

    private static void neededIsOneToNine() {
        VotedLabels x = new VotedLabels();
        int previous = 2;
        for (int votes : new int[] {1, 3, 2, 4, 5, 6, 7, 8, 9}) {
            Due.is("needed", x.setNeeded(votes), previous);
            Due.is("already", x.setNeeded(votes), NONE);
            Due.is("told", x.count(5), votes);
            previous = votes;
        }
        Due.is("too many", x.setNeeded(10), VotedLabels.BAD_VALUE);
        Due.is("too few", x.setNeeded(0), VotedLabels.BAD_VALUE);
        Due.is("as it was", x.count(5), 9);
        Due.is("from the largest to the smallest", x.setNeeded(1), 9);
    }

    private static void justAsManyVotesAsNeeded() {
        for (int needed = 1; needed <= 9; needed++) {
            VotedLabels x = withText("a");
            x.setNeeded(needed);
            x.rewrite(0, 0, 0);
            for (int votes = 1; votes < needed; votes++) {
                x.vote(votes, 0, true);
            }
            Due.is("one too few of " + needed, x.rewriteOf(0, 7), 0);
            Due.is("one too few of " + needed, x.endWeek(), 0);
            x.vote(needed, 0, true);
            Due.is("just enough: " + needed, x.rewriteOf(0, 7), 1);
            Due.is("just enough: " + needed, x.endWeek(), 1);
        }
    }

    private static void justAsLongAsTheLimit() {
        for (int words = 2; words <= 15; words++) {
            VotedLabels x = new VotedLabels();
            x.setNeeded(1);
            x.setLimit(2, 15);
            Due.text(x, Galleries.words(words));
            x.rewrite(0, 2, 0);
            votes(x, 0, 1);
            x.setLimit(2, words - 1);
            Due.is("a word too long", x.rewriteOf(0, 7), 0);
            Due.is("a word too long", x.endWeek(), 0);
            x.setLimit(2, words);
            Due.is("just as long", x.rewriteOf(0, 7), 1);
            Due.is("just as long", x.endWeek(), 1);
            Due.is("words", x.labelOf(2, 0, 0), words);
        }
    }

    private static void theLowestNumberOfAlikeOnes() {
        VotedLabels x = withText("a b");
        x.setNeeded(1);
        x.rewrite(2, 0, 0);
        x.rewrite(1, 0, 0);
        x.rewrite(0, 0, 0);
        votes(x, 2, 7);
        votes(x, 1, 8);
        Due.is("the higher not", x.rewriteOf(2, 7), 0);
        Due.is("the lower", x.rewriteOf(1, 7), 1);
        Due.is("the lowest has no votes", x.rewriteOf(0, 7), 0);
        Due.is("ranked first", x.ranked(0, 0, 0), 1);
        Due.is("ranked second", x.ranked(0, 0, 1), 2);
        x.rewrite(1, 0, 0);
        votes(x, 3, 8);
        Due.is("handed in anew it has a higher number", x.rewriteOf(3, 7), 0);
        Due.is("so the other becomes it", x.rewriteOf(2, 7), 1);
        x.endWeek();
        Due.is("the label is the lower one's", x.labelOf(0, 0, 2), 0);
        Due.is("the higher one is left", x.rewriteOf(3, 7), 1);
    }

    private static void theFewestWordsOfEqualVotes() {
        VotedLabels x = withText("a b");
        x.setNeeded(1);
        x.rewrite(0, 0, 0);
        Due.text(x, "longletters");
        x.rewrite(1, 0, 0);
        Due.text(x, "a b c");
        x.rewrite(2, 0, 0);
        votes(x, 0, 7);
        votes(x, 1, 8);
        votes(x, 2, 9);
        Due.is("two words", x.rewriteOf(0, 7), 0);
        Due.is("one word", x.rewriteOf(1, 7), 1);
        Due.is("three words", x.rewriteOf(2, 7), 0);
        Due.is("ranked by the number all the same", x.ranked(0, 0, 0), 0);
        x.endWeek();
        Due.shows(x, 0, 0, "longletters");
    }

    private static void theMostVotesBeforeTheFewestWords() {
        VotedLabels x = withText("a");
        x.setNeeded(1);
        x.rewrite(0, 0, 0);
        Due.text(x, "a b c");
        x.rewrite(1, 0, 0);
        votes(x, 0, 7);
        votes(x, 1, 8, 9);
        Due.is("fewer votes", x.rewriteOf(0, 7), 0);
        Due.is("more votes", x.rewriteOf(1, 7), 1);
        x.setLimit(0, 2);
        Due.is("more votes, but too long", x.rewriteOf(1, 7), 0);
        Due.is("the next one", x.rewriteOf(0, 7), 1);
        Due.is("ranked first though too long", x.ranked(0, 0, 0), 1);
    }

    private static void oneForEachWorkAndTongueInAWeek() {
        VotedLabels x = withText("a");
        x.setNeeded(1);
        for (int i = 0; i < 16; i++) {
            x.rewrite(i % 2, i / 2, 2);
            votes(x, i, 5 + i % 2);
        }
        Due.is("the lower of each work", x.endWeek(), 8);
        Due.is("labels", x.count(0), 8);
        Due.is("rewrites", x.count(1), 8);
        Due.is("rewritten so far", x.count(7), 8);
        Due.is("accepted", x.visitor(0, 1), 8);
        Due.is("labels that stand", x.visitor(0, 3), 8);
        Due.is("alike, but accepted in the next week", x.endWeek(), 8);
        Due.is("labels", x.count(0), 8);
        Due.is("rewritten so far", x.count(7), 16);
        Due.is("no longer the visitor's", x.visitor(0, 3), 0);
        Due.is("but accepted", x.visitor(0, 1), 8);
        Due.is("the other visitor's", x.visitor(1, 3), 8);
        for (int work = 0; work < 8; work++) {
            Due.is("the weeks ahead of the end", x.labelOf(work, 2, 3), 1);
        }
    }

    private static void threeWeeksOldAreGone() {
        VotedLabels x = withText("a");
        x.rewrite(0, 0, 0);
        for (int age = 0; age < 3; age++) {
            Due.is("age", x.rewriteOf(0, 5), age);
            Due.is("fell away", x.count(8), 0);
            Due.is("rewrites", x.count(1), 1 + age);
            x.rewrite(1 + age, 7, 2);
            x.endWeek();
        }
        Due.is("gone", x.rewriteOf(0, 5), UNKNOWN);
        Due.is("the first two of the same week are gone", x.rewriteOf(1, 5), UNKNOWN);
        Due.is("fell away", x.count(8), 2);
        Due.is("of one week later", x.rewriteOf(2, 5), 2);
        Due.is("of two weeks later", x.rewriteOf(3, 5), 1);
        x.endWeek();
        Due.is("one more", x.count(8), 3);
        x.undo();
        Due.is("undone", x.count(8), 2);
        x.endWeek();
        x.endWeek();
        Due.is("one more", x.count(8), 4);
        Due.is("none is there", x.count(1), 0);
    }

    private static void sixteenFallAwayAtOnce() {
        VotedLabels x = withText("a");
        for (int i = 0; i < 16; i++) {
            x.rewrite(i % 10, i % 8, i / 8);
            votes(x, i, (i + 1) % 10);
        }
        x.endWeek();
        x.endWeek();
        Due.is("all are there", x.count(1), 16);
        Due.is("with their votes", x.count(3), 16);
        Due.is("none has enough", x.endWeek(), 0);
        Due.is("none is there", x.count(1), 0);
        Due.is("no votes either", x.count(3), 0);
        Due.is("fell away", x.count(8), 16);
        Due.is("room again", x.rewrite(0, 0, 0), 16);
        x.undo();
        Due.is("undone", x.undo(), 2);
        Due.is("all are there again", x.count(1), 16);
        Due.is("with their votes", x.count(3), 16);
        Due.is("none fell away", x.count(8), 0);
        Due.is("two weeks old", x.rewriteOf(15, 5), 2);
    }

    private static void acceptedInTheLastWeekDidNotFallAway() {
        VotedLabels x = withText("a");
        x.rewrite(0, 0, 0);
        x.rewrite(1, 0, 0);
        x.endWeek();
        x.endWeek();
        votes(x, 1, 5, 6);
        Due.is("accepted", x.endWeek(), 1);
        Due.is("the other fell away", x.count(8), 1);
        Due.is("none is there", x.count(1), 0);
        Due.is("the label", x.labelOf(0, 0, 2), 1);
        Due.is("the weeks ahead of the end", x.labelOf(0, 0, 3), 2);
    }

    private static void aRewriteInThePlaceOfOneIsYoung() {
        VotedLabels x = withText("a");
        x.rewrite(0, 0, 0);
        x.endWeek();
        x.endWeek();
        x.rewrite(0, 0, 0);
        x.endWeek();
        Due.is("one week old", x.rewriteOf(1, 5), 1);
        Due.is("the earlier one did not fall away by its age", x.count(8), 0);
    }

    private static void weeksAreCountedFromZero() {
        VotedLabels x = withText("a");
        x.label(0, 0);
        Due.is("weeks as it became the label", x.labelOf(0, 0, 3), 0);
        for (int week = 0; week < 400; week++) {
            if (week % 50 == 0) {
                Due.is("weeks", x.count(4), week);
            }
            x.endWeek();
        }
        Due.is("weeks", x.count(4), 400);
        x.label(1, 0);
        Due.is("weeks as it became the label", x.labelOf(1, 0, 3), 400);
        Due.is("of the first", x.labelOf(0, 0, 3), 0);
    }

    private static void aWeekWithoutRewrites() {
        VotedLabels x = new VotedLabels();
        Due.is("none rewritten", x.endWeek(), 0);
        Due.is("weeks", x.count(4), 1);
        Due.is("rewritten so far", x.count(7), 0);
        Due.is("fell away", x.count(8), 0);
        Due.is("labels", x.count(0), 0);
        Due.is("recorded", x.count(10), 1);
    }
}
