/** Promises 8 to 10: rewrites, votes and weeks. */
public final class RewritesTest {
    public static void main(String[] args) {
        promise8Rewrite();
        promise8Errors();
        promise8TakesThePlace();
        promise8Full();
        promise8TwoHundred();
        promise9Vote();
        promise9VoteMoves();
        promise9Errors();
        promise10EndWeek();
        promise10WhichIsBest();
        promise10Limits();
        promise10LimitOfItsOwnRoom();
        promise10Ages();
        promise10AlsoIfItIsTheLabel();
        Due.end();
    }

    private static void promise8Rewrite() {
        VotedLabels x = new VotedLabels();
        Due.text(x, "new words here");
        Due.is("first", x.rewrite(9, 7, 2), 0);
        Due.is("the text stays", x.count(11), 14);
        Due.is("second", x.rewrite(0, 7, 2), 1);
        Due.is("third", x.rewrite(9, 7, 1), 2);
        Due.is("fourth", x.rewrite(9, 6, 2), 3);
        Due.is("work", x.rewriteOf(2, 0), 7);
        Due.is("tongue", x.rewriteOf(2, 1), 1);
        Due.is("visitor", x.rewriteOf(2, 2), 9);
        Due.is("words", x.rewriteOf(2, 3), 3);
        Due.is("votes", x.rewriteOf(2, 4), 0);
        Due.is("age", x.rewriteOf(2, 5), 0);
        Due.is("no label by that", x.count(0), 0);
        Due.is("rewrites", x.count(1), 4);
        Due.is("recorded", x.undo(), 3);
        Due.is("rewrites", x.count(1), 3);
        Due.is("so far is of the state", x.count(2), 3);
        Due.is("the number, given anew after undo", x.rewrite(1, 0, 0), 3);
    }

    private static void promise8Errors() {
        VotedLabels x = new VotedLabels();
        Due.is("visitor -1", x.rewrite(-1, 0, 0), VotedLabels.UNKNOWN);
        Due.is("visitor 10", x.rewrite(10, 0, 0), VotedLabels.UNKNOWN);
        Due.is("work -1", x.rewrite(0, -1, 0), VotedLabels.UNKNOWN);
        Due.is("work 8", x.rewrite(0, 8, 0), VotedLabels.UNKNOWN);
        Due.is("tongue -1", x.rewrite(0, 0, -1), VotedLabels.UNKNOWN);
        Due.is("tongue 3", x.rewrite(0, 0, 3), VotedLabels.UNKNOWN);
        Due.is("empty text", x.rewrite(0, 0, 0), -100);
        Due.text(x, "ab c ");
        Due.is("fault at the end", x.rewrite(0, 0, 0), -105);
        Due.text(x, "ab 7");
        Due.is("fault inside", x.rewrite(0, 0, 0), -103);
        x.setLimit(0, 2);
        Due.text(x, "a b c");
        Due.is("too long", x.rewrite(0, 0, 0), VotedLabels.TOO_LONG);
        Due.is("not too long elsewhere", x.rewrite(0, 1, 0), 0);
        Due.text(x, "a b");
        Due.is("as long as may be", x.rewrite(0, 0, 0), 1);
        x.label(0, 0);
        Due.is("it is the label", x.rewrite(1, 0, 0), VotedLabels.NOT_POSSIBLE);
        Due.is("not of the other tongue", x.rewrite(1, 0, 1), 2);
        Due.is("no number taken by errors", x.count(2), 3);
        Due.is("four acts, errors not recorded", x.undo(), 3);
        x.undo();
        x.undo();
        x.undo();
        Due.is("all undone but one", x.room(0, 0), 2);
    }

    private static void promise8TakesThePlace() {
        VotedLabels x = new VotedLabels();
        Due.text(x, "a b");
        x.rewrite(3, 2, 1);
        x.vote(4, 0, true);
        x.vote(5, 0, true);
        Due.is("another visitor's", x.rewrite(6, 2, 1), 1);
        Due.is("another tongue", x.rewrite(3, 2, 0), 2);
        Due.is("another work", x.rewrite(3, 6, 1), 3);
        Due.is("even with the same words", x.rewrite(3, 2, 1), 4);
        Due.is("the earlier is gone", x.rewriteOf(0, 0), VotedLabels.UNKNOWN);
        Due.is("its votes too", x.count(3), 0);
        Due.is("no votes yet", x.rewriteOf(4, 4), 0);
        Due.is("rewrites", x.count(1), 4);
        Due.is("so far", x.count(2), 5);
        Due.is("visitor's", x.visitor(3, 0), 3);
        Due.is("voter has none", x.visitor(4, 2), 0);
        Due.is("the others' stay", x.rewriteOf(1, 2), 6);
        Due.is("the others' stay", x.rewriteOf(2, 1), 0);
        Due.is("the others' stay", x.rewriteOf(3, 0), 6);
        x.endWeek();
        x.rewrite(6, 2, 1);
        Due.is("young again", x.rewriteOf(5, 5), 0);
    }

    private static void promise8Full() {
        VotedLabels x = new VotedLabels();
        Due.text(x, "a");
        for (int i = 0; i < 16; i++) {
            Due.is("rewrite " + i, x.rewrite(i % 10, i % 8, i / 8), i);
        }
        Due.is("seventeenth", x.rewrite(0, 0, 2), VotedLabels.FULL);
        Due.is("nothing changed", x.count(1), 16);
        sixteenAreTold(x);
        Due.is("in the place of one", x.rewrite(3, 3, 0), 16);
        Due.is("in the place of the first", x.rewrite(0, 0, 0), 17);
        Due.is("still sixteen", x.count(1), 16);
        Due.text(x, "b");
        x.label(0, 2);
        Due.is("not possible ahead of full", x.rewrite(0, 0, 2), VotedLabels.NOT_POSSIBLE);
        x.endWeek();
        x.endWeek();
        Due.is("full until they fall", x.rewrite(0, 0, 1), VotedLabels.FULL);
        x.endWeek();
        Due.is("room again", x.rewrite(0, 0, 1), 18);
    }

    private static void sixteenAreTold(VotedLabels x) {
        for (int visitor = 0; visitor < 10; visitor++) {
            Due.is("rewrites of " + visitor, x.visitor(visitor, 0), visitor < 6 ? 2 : 1);
            Due.is("votes of " + visitor, x.visitor(visitor, 2), 0);
        }
        Due.is("no votes", x.count(3), 0);
        Due.is("not there", x.rewriteOf(16, 0), VotedLabels.UNKNOWN);
        Due.is("best of one place", x.rewriteOf(15, 7), 0);
        Due.is("first of one place", x.ranked(7, 1, 0), 15);
        Due.is("second of one place", x.ranked(7, 1, 1), VotedLabels.NONE);
        Due.is("vote for the last", x.vote(0, 15, true), 1);
        Due.is("taken back", x.vote(0, 15, false), 0);
    }

    private static void promise8TwoHundred() {
        VotedLabels x = new VotedLabels();
        Due.text(x, "a");
        for (int i = 0; i < 200; i++) {
            Due.is("rewrite " + i, x.rewrite(5, 5, 1), i);
        }
        Due.is("in the place of one", x.rewrite(5, 5, 1), VotedLabels.FULL);
        Due.is("anew", x.rewrite(6, 5, 1), VotedLabels.FULL);
        Due.is("the last stands", x.rewriteOf(199, 2), 5);
        Due.is("so far", x.count(2), 200);
        x.undo();
        Due.is("the last, given anew after undo", x.rewrite(6, 5, 1), 199);
    }

    private static void promise9Vote() {
        VotedLabels x = new VotedLabels();
        Due.text(x, "a b");
        x.rewrite(0, 0, 0);
        Due.is("no vote to take back", x.vote(1, 0, false), VotedLabels.NONE);
        Due.is("one", x.vote(1, 0, true), 1);
        Due.is("the same again", x.vote(1, 0, true), VotedLabels.NONE);
        Due.is("two", x.vote(9, 0, true), 2);
        Due.is("taken back", x.vote(1, 0, false), 1);
        Due.is("not back twice", x.vote(1, 0, false), VotedLabels.NONE);
        Due.is("votes", x.rewriteOf(0, 4), 1);
        Due.is("votes of 1", x.visitor(1, 2), 0);
        Due.is("votes of 9", x.visitor(9, 2), 1);
        Due.is("acts recorded", x.count(10), 4);
        x.undo();
        Due.is("vote is back", x.rewriteOf(0, 4), 2);
        x.undo();
        Due.is("one vote", x.rewriteOf(0, 4), 1);
        for (int visitor = 1; visitor < 10; visitor++) {
            x.vote(visitor, 0, true);
        }
        Due.is("all others vote", x.rewriteOf(0, 4), 9);
    }

    private static void promise9VoteMoves() {
        VotedLabels x = new VotedLabels();
        Due.text(x, "a b");
        x.rewrite(0, 0, 0);
        x.rewrite(1, 0, 0);
        x.rewrite(2, 0, 1);
        x.rewrite(2, 4, 0);
        x.vote(5, 2, true);
        x.vote(5, 3, true);
        Due.is("for the first", x.vote(5, 0, true), 1);
        Due.is("for the second", x.vote(5, 1, true), 1);
        Due.is("no longer for the first", x.rewriteOf(0, 4), 0);
        Due.is("the other tongue's stays", x.rewriteOf(2, 4), 1);
        Due.is("the other work's stays", x.rewriteOf(3, 4), 1);
        Due.is("votes of the visitor", x.visitor(5, 2), 3);
        Due.is("all votes", x.count(3), 3);
        Due.is("another's vote", x.vote(6, 1, true), 2);
        Due.is("no vote for the first", x.vote(5, 0, false), VotedLabels.NONE);
        Due.is("the second's stay", x.rewriteOf(1, 4), 2);
        Due.is("an author votes for another's", x.vote(0, 1, true), 3);
    }

    private static void promise9Errors() {
        VotedLabels x = new VotedLabels();
        Due.text(x, "a b");
        x.rewrite(3, 0, 0);
        Due.is("visitor -1", x.vote(-1, 0, true), VotedLabels.UNKNOWN);
        Due.is("visitor 10", x.vote(10, 0, true), VotedLabels.UNKNOWN);
        Due.is("visitor 35", x.vote(35, 0, true), VotedLabels.UNKNOWN);
        Due.is("rewrite 1", x.vote(0, 1, true), VotedLabels.UNKNOWN);
        Due.is("rewrite -1", x.vote(0, -1, true), VotedLabels.UNKNOWN);
        Due.is("own", x.vote(3, 0, true), VotedLabels.NOT_POSSIBLE);
        Due.is("own, taken back", x.vote(3, 0, false), VotedLabels.NOT_POSSIBLE);
        Due.is("nothing recorded", x.count(10), 1);
        x.rewrite(3, 0, 0);
        Due.is("gone", x.vote(0, 0, true), VotedLabels.UNKNOWN);
    }

    private static void promise10EndWeek() {
        VotedLabels x = new VotedLabels();
        Due.is("a week without rewrites", x.endWeek(), 0);
        Due.is("weeks", x.count(4), 1);
        Due.is("recorded", x.count(10), 1);
        Due.text(x, "red cow");
        x.rewrite(1, 0, 0);
        x.rewrite(1, 3, 2);
        x.rewrite(2, 3, 2);
        x.vote(5, 0, true);
        x.vote(6, 0, true);
        x.vote(5, 1, true);
        Due.is("one has enough votes", x.endWeek(), 1);
        Due.shows(x, 0, 0, "red cow");
        Due.is("by the visitor", x.labelOf(0, 0, 2), 1);
        Due.is("weeks ahead of the end", x.labelOf(0, 0, 3), 1);
        Due.is("weeks", x.count(4), 2);
        Due.is("accepted", x.visitor(1, 1), 1);
        Due.is("not accepted", x.visitor(2, 1), 0);
        Due.is("it is gone", x.rewriteOf(0, 0), VotedLabels.UNKNOWN);
        Due.is("its votes are gone", x.count(3), 1);
        Due.is("its votes are gone", x.visitor(6, 2), 0);
        Due.is("others stay", x.count(1), 2);
        Due.is("older", x.rewriteOf(1, 5), 1);
        Due.is("rewritten so far", x.count(7), 1);
        x.vote(6, 1, true);
        Due.is("votes stay over the week", x.endWeek(), 1);
        Due.is("rewritten so far", x.count(7), 2);
        Due.is("accepted", x.visitor(1, 1), 2);
        x.undo();
        Due.is("weeks back", x.count(4), 2);
        Due.is("accepted back", x.visitor(1, 1), 1);
        Due.is("label back", x.labelOf(3, 2, 0), VotedLabels.NONE);
        Due.is("rewrite back", x.rewriteOf(1, 4), 2);
        Due.is("rewritten back", x.count(7), 1);
    }

    private static void promise10WhichIsBest() {
        VotedLabels x = new VotedLabels();
        x.setNeeded(1);
        Due.text(x, "a b c");
        x.rewrite(0, 0, 0);
        x.rewrite(1, 0, 1);
        x.rewrite(2, 0, 2);
        Due.text(x, "long word");
        x.rewrite(1, 0, 0);
        x.rewrite(2, 0, 1);
        Due.text(x, "aa bb");
        x.rewrite(3, 0, 1);
        x.rewrite(4, 0, 2);
        // the tongue 0: the most votes, though it has more words
        x.vote(8, 0, true);
        x.vote(9, 0, true);
        x.vote(7, 3, true);
        // the tongue 1: equal votes, the fewest words, of these the lowest number
        x.vote(7, 1, true);
        x.vote(8, 4, true);
        x.vote(9, 5, true);
        // the tongue 2: too few votes for one with fewer words
        x.vote(7, 2, true);
        Due.is("three", x.endWeek(), 3);
        Due.shows(x, 0, 0, "a b c");
        Due.shows(x, 0, 1, "long word");
        Due.shows(x, 0, 2, "a b c");
        Due.is("visitor", x.labelOf(0, 1, 2), 2);
        Due.is("only the best are gone", x.count(1), 4);
        Due.is("next best", x.endWeek(), 2);
        Due.shows(x, 0, 0, "long word");
        Due.shows(x, 0, 1, "aa bb");
        Due.is("rewritten so far", x.count(7), 5);
    }

    private static void promise10Limits() {
        VotedLabels x = new VotedLabels();
        x.setNeeded(1);
        Due.text(x, "a b c");
        x.rewrite(0, 0, 0);
        Due.text(x, "a b");
        x.rewrite(1, 0, 0);
        x.vote(2, 0, true);
        x.vote(3, 0, true);
        x.vote(4, 1, true);
        x.setLimit(0, 2);
        Due.is("rewrites are not cut", x.rewriteOf(0, 3), 3);
        Due.is("one", x.endWeek(), 1);
        Due.shows(x, 0, 0, "a b");
        Due.is("too long", x.rewriteOf(0, 5), 1);
        Due.is("none", x.endWeek(), 0);
        x.bring(0, 1);
        Due.is("not too long there", x.endWeek(), 1);
        Due.shows(x, 0, 0, "a b c");
        Due.is("not fallen away", x.count(8), 0);
    }

    private static void promise10LimitOfItsOwnRoom() {
        for (int work = 0; work < 8; work++) {
            for (int tongue = 0; tongue < 3; tongue++) {
                VotedLabels x = new VotedLabels();
                x.setNeeded(1);
                Due.text(x, "a b");
                x.rewrite(1, work, tongue);
                x.vote(0, 0, true);
                for (int room = 0; room < 4; room++) {
                    x.setLimit(room, room == work % 4 ? 2 : 1);
                }
                Due.is("fits work " + work, x.rewriteOf(0, 7), 1);
                x.setLimit(work % 4, 1);
                x.setLimit((work + 1) % 4, 15);
                Due.is("too long for work " + work, x.rewriteOf(0, 7), 0);
                Due.is("not rewritten", x.endWeek(), 0);
            }
        }
    }

    private static void promise10Ages() {
        VotedLabels x = new VotedLabels();
        Due.text(x, "a");
        x.rewrite(0, 0, 0);
        x.rewrite(1, 7, 2);
        x.vote(5, 0, true);
        x.endWeek();
        x.rewrite(2, 3, 1);
        x.endWeek();
        Due.is("two weeks old", x.rewriteOf(0, 5), 2);
        Due.is("one week old", x.rewriteOf(2, 5), 1);
        Due.is("none fell away", x.count(8), 0);
        Due.is("none rewritten", x.endWeek(), 0);
        Due.is("gone", x.rewriteOf(0, 5), VotedLabels.UNKNOWN);
        Due.is("gone", x.rewriteOf(1, 5), VotedLabels.UNKNOWN);
        Due.is("stays", x.rewriteOf(2, 5), 2);
        Due.is("two fell away", x.count(8), 2);
        Due.is("votes gone", x.count(3), 0);
        Due.is("votes gone", x.visitor(5, 2), 0);
        Due.is("no labels", x.count(0), 0);
        x.vote(0, 2, true);
        x.vote(1, 2, true);
        Due.is("accepted in its third week", x.endWeek(), 1);
        Due.is("not fallen away", x.count(8), 2);
        x.undo();
        x.vote(1, 2, false);
        Due.is("otherwise not", x.endWeek(), 0);
        Due.is("fallen away", x.count(8), 3);
    }

    private static void promise10AlsoIfItIsTheLabel() {
        VotedLabels x = new VotedLabels();
        Due.text(x, "a b");
        x.rewrite(0, 0, 0);
        x.vote(1, 0, true);
        x.vote(2, 0, true);
        x.label(0, 0);
        Due.is("as far as nothing", x.rewriteOf(0, 6), 0);
        x.endWeek();
        Due.is("accepted though alike", x.visitor(0, 1), 1);
        Due.is("its visitor now", x.labelOf(0, 0, 2), 0);
        Due.is("rewritten", x.count(7), 1);
        x.rewrite(1, 1, 0);
        x.vote(2, 1, true);
        x.vote(3, 1, true);
        x.label(1, 0);
        x.setLimit(1, 1);
        x.setLimit(1, 2);
        Due.is("cut", x.labelOf(1, 0, 4), 1);
        x.endWeek();
        Due.is("cuts since", x.labelOf(1, 0, 4), 0);
        Due.is("weeks then", x.labelOf(1, 0, 3), 1);
    }
}
