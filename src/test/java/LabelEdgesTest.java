/** The edges of rooms, works, labels, limits, words and texts: what is just allowed, and what just not. */
public final class LabelEdgesTest {
    private static final int NONE = VotedLabels.NONE;
    private static final int TOO_LONG = VotedLabels.TOO_LONG;

    public static void main(String[] args) {
        worksAreInTheRoomModuloFour();
        eachWorkCanBeInEachRoom();
        roomsAskForTheTongueZeroAlone();
        aRoomAsksForNoneToThreeTongues();
        limitIsTenAtFirst();
        limitsAreOneToFifteen();
        thereAreNoLabelsAtFirst();
        aWorkHasOneLabelInEachTongue();
        aLabelHasOneWordOrMore();
        aLabelHasAsManyWordsAsTheLimit();
        labelsOfJustTheLimitAreNotCut();
        labelsKeepTheirFirstWords();
        aHigherLimitGivesNothingBack();
        allLabelsOfAllWorksAreCut();
        aLimitCutsTheWorksThatAreInItsRoomThen();
        labelsInTonguesNotAskedForAreCut();
        worksThatComeToARoomAreCutByItsLimit();
        cutsAreCountedEachTime();
        aLabelMadeAnewWasNotCutYet();
        wordsAreAlikeByAllTheirLetters();
        nothingIsTakenDownTwice();
        Due.end();
    }

    private static void worksAreInTheRoomModuloFour() {
        for (int work = 0; work < 8; work++) {
            for (int room = 0; room < 4; room++) {
                boolean isThere = work % 4 == room;
                Due.is("bring " + work + " to " + room, new VotedLabels().bring(work, room), isThere ? NONE : 0);
            }
        }
    }

    private static void eachWorkCanBeInEachRoom() {
        for (int room = 0; room < 4; room++) {
            VotedLabels x = new VotedLabels();
            for (int work = 0; work < 8; work++) {
                x.bring(work, room);
                Due.is("is there", x.bring(work, room), NONE);
            }
            for (int other = 0; other < 4; other++) {
                Due.is("works, all in one room", x.room(other, 1), other == room ? 8 : 0);
                Due.is("missing, all in one room", x.room(other, 4), other == room ? 8 : 0);
            }
        }
    }

    private static void roomsAskForTheTongueZeroAlone() {
        for (int room = 0; room < 4; room++) {
            VotedLabels x = new VotedLabels();
            Due.is("asks at first", x.room(room, 2), 1);
            Due.is("for the tongue 0", x.ask(room, 0, true), NONE);
            Due.is("not for the tongue 1", x.ask(room, 1, false), NONE);
            Due.is("not for the tongue 2", x.ask(room, 2, false), NONE);
        }
    }

    private static void aRoomAsksForNoneToThreeTongues() {
        for (int room = 0; room < 4; room++) {
            VotedLabels x = new VotedLabels();
            Due.is("asks for none", x.ask(room, 0, false), 0);
            Due.is("bits of none", x.room(room, 2), 0);
            Due.is("still for none", x.ask(room, 0, false), NONE);
            Due.is("asks for the tongue 2", x.ask(room, 2, true), 1);
            Due.is("bits of one", x.room(room, 2), 4);
            Due.is("asks for the tongue 1", x.ask(room, 1, true), 2);
            Due.is("bits of two", x.room(room, 2), 6);
            Due.is("asks for the tongue 0", x.ask(room, 0, true), 3);
            Due.is("bits of all", x.room(room, 2), 7);
            Due.is("already", x.ask(room, 2, true), NONE);
            for (int other = 0; other < 4; other++) {
                Due.is("the other rooms", x.room(other, 2), other == room ? 7 : 1);
            }
        }
    }

    private static void limitIsTenAtFirst() {
        for (int room = 0; room < 4; room++) {
            Due.is("limit at first", new VotedLabels().room(room, 0), 10);
            Due.is("ten already", new VotedLabels().setLimit(room, 10), NONE);
            Due.is("nine is another", new VotedLabels().setLimit(room, 9), 0);
            Due.is("eleven is another", new VotedLabels().setLimit(room, 11), 0);
        }
    }

    private static void limitsAreOneToFifteen() {
        for (int room = 0; room < 4; room++) {
            VotedLabels x = new VotedLabels();
            Due.is("the smallest", x.setLimit(room, 1), 0);
            Due.is("is told", x.room(room, 0), 1);
            Due.is("already", x.setLimit(room, 1), NONE);
            Due.is("too small", x.setLimit(room, 0), VotedLabels.BAD_VALUE);
            Due.is("the largest", x.setLimit(room, 15), 0);
            Due.is("is told", x.room(room, 0), 15);
            Due.is("already", x.setLimit(room, 15), NONE);
            Due.is("too large", x.setLimit(room, 16), VotedLabels.BAD_VALUE);
            Due.is("the other room's", x.room((room + 1) % 4, 0), 10);
        }
    }

    private static void thereAreNoLabelsAtFirst() {
        VotedLabels x = new VotedLabels();
        for (int work = 0; work < 8; work++) {
            for (int tongue = 0; tongue < 3; tongue++) {
                Due.is("words", x.labelOf(work, tongue, 0), NONE);
                Due.is("letter", x.letter(work, tongue, 0), NONE);
                Due.is("takeDown", x.takeDown(work, tongue), NONE);
            }
        }
        Due.is("labels", x.count(0), 0);
        Due.is("labels kept", x.keep(), 0);
    }

    private static void aWorkHasOneLabelInEachTongue() {
        VotedLabels x = new VotedLabels();
        int labels = 0;
        for (int work = 0; work < 8; work++) {
            for (int tongue = 0; tongue < 3; tongue++) {
                Due.text(x, "w" + (char) ('a' + work) + " " + (char) ('x' + tongue));
                Due.is("labelled", x.label(work, tongue), 2);
                labels++;
                Due.is("labels", x.count(0), labels);
            }
        }
        Due.shows(x, 0, 0, "wa x");
        Due.shows(x, 3, 1, "wd y");
        Due.shows(x, 7, 2, "wh z");
        Due.text(x, "other");
        x.label(7, 2);
        Due.is("one in the place of one", x.count(0), 24);
        Due.is("all 24 are kept", x.keep(), 24);
        Due.is("all 24 are restored", x.restore(), 24);
        Due.is("none is missing", x.count(6), 0);
    }

    private static void aLabelHasOneWordOrMore() {
        VotedLabels x = new VotedLabels();
        Due.text(x, "a");
        Due.is("one word of one letter", x.label(0, 0), 1);
        Due.is("its characters", x.labelOf(0, 0, 1), 1);
        x.setLimit(0, 15);
        Due.is("one word is never cut", x.setLimit(0, 1), 0);
        Due.shows(x, 0, 0, "a");
        Due.text(x, "");
        Due.is("no words", x.label(0, 0), -100);
        Due.text(x, "q".repeat(60));
        Due.is("one word of sixty letters", x.label(0, 0), 1);
        Due.is("its characters", x.labelOf(0, 0, 1), 60);
        Due.is("its last letter", x.letter(0, 0, 59), 'q');
        Due.is("behind it", x.letter(0, 0, 60), NONE);
    }

    private static void aLabelHasAsManyWordsAsTheLimit() {
        for (int limit = 1; limit <= 15; limit++) {
            VotedLabels x = new VotedLabels();
            x.setLimit(3, limit);
            Due.text(x, Galleries.words(limit + 1));
            Due.is("one more than the limit " + limit, x.label(3, 0), TOO_LONG);
            Due.is("a rewrite with one more", x.rewrite(0, 3, 0), TOO_LONG);
            Due.text(x, Galleries.words(limit));
            Due.is("a rewrite of the limit " + limit, x.rewrite(0, 3, 0), 0);
            Due.is("its words", x.rewriteOf(0, 3), limit);
            Due.is("as many as the limit", x.label(3, 0), limit);
            Due.is("its characters", x.labelOf(3, 0, 1), 2 * limit - 1);
            Due.is("the longest of the room", x.room(3, 6), limit);
        }
    }

    private static void labelsOfJustTheLimitAreNotCut() {
        for (int limit = 1; limit <= 14; limit++) {
            VotedLabels x = new VotedLabels();
            x.setLimit(1, 15);
            Due.text(x, Galleries.words(limit + 1));
            x.label(1, 0);
            Due.text(x, Galleries.words(limit));
            x.label(5, 0);
            Due.is("one is a word too long for " + limit, x.setLimit(1, limit), 1);
            Due.is("the longer one has been cut", x.labelOf(1, 0, 4), 1);
            Due.is("the other one not", x.labelOf(5, 0, 4), 0);
            Due.is("words", x.labelOf(1, 0, 0), limit);
            Due.is("words", x.labelOf(5, 0, 0), limit);
            Due.shows(x, 1, 0, Galleries.words(limit));
            Due.shows(x, 5, 0, Galleries.words(limit));
        }
    }

    private static void labelsKeepTheirFirstWords() {
        VotedLabels x = new VotedLabels();
        Due.text(x, "the long red cow");
        x.label(2, 1);
        x.setLimit(2, 2);
        Due.shows(x, 2, 1, "the long");
        Due.is("characters", x.labelOf(2, 1, 1), 8);
        Due.is("behind them", x.letter(2, 1, 8), NONE);
        Due.text(x, "the long");
        Due.is("it is the label now", x.label(2, 1), NONE);
        Due.text(x, "red");
        Due.is("no word that was cut", x.labelsWith(1), 0);
        Due.text(x, "long");
        Due.is("a word that was kept", x.labelsWith(1), 1);
    }

    private static void aHigherLimitGivesNothingBack() {
        VotedLabels x = new VotedLabels();
        Due.text(x, "the long red cow");
        x.label(2, 1);
        x.setLimit(2, 3);
        Due.is("a higher limit cuts none", x.setLimit(2, 15), 0);
        Due.shows(x, 2, 1, "the long red");
        Due.is("a room of a higher limit cuts none", x.bring(2, 0), 0);
        Due.shows(x, 2, 1, "the long red");
        Due.is("cut once", x.labelOf(2, 1, 4), 1);
    }

    private static void allLabelsOfAllWorksAreCut() {
        VotedLabels x = new VotedLabels();
        Due.text(x, "a b");
        for (int work = 0; work < 8; work++) {
            x.bring(work, 2);
            for (int tongue = 0; tongue < 3; tongue++) {
                x.label(work, tongue);
            }
        }
        Due.is("the other rooms have none", x.setLimit(1, 1), 0);
        Due.is("none is too long", x.setLimit(2, 2), 0);
        Due.is("all 24", x.setLimit(2, 1), 24);
        Due.is("cut so far", x.count(9), 24);
        Due.is("all stand", x.count(0), 24);
        Due.is("undone", x.undo(), 3);
        Due.is("cut so far", x.count(9), 0);
        Due.is("all three of one work", x.bring(7, 1), 3);
        Due.is("cut so far", x.count(9), 3);
    }

    /** The works that are in the room at first are brought elsewhere, but for the one that is looked at. */
    private static void aLimitCutsTheWorksThatAreInItsRoomThen() {
        for (int room = 0; room < 4; room++) {
            for (int work = 0; work < 8; work++) {
                VotedLabels x = new VotedLabels();
                Due.text(x, "a b");
                for (int other = 0; other < 8; other++) {
                    x.label(other, 1);
                    x.bring(other, other == work ? room : (room + 1) % 4);
                }
                Due.is("the work " + work + " alone is in the room " + room, x.room(room, 1), 1);
                Due.is("it is cut", x.setLimit(room, 1), 1);
                for (int other = 0; other < 8; other++) {
                    Due.is("words of " + other, x.labelOf(other, 1, 0), other == work ? 1 : 2);
                    Due.is("cuts of " + other, x.labelOf(other, 1, 4), other == work ? 1 : 0);
                }
            }
        }
    }

    private static void labelsInTonguesNotAskedForAreCut() {
        VotedLabels x = new VotedLabels();
        x.ask(0, 0, false);
        Due.text(x, "a b");
        x.label(0, 0);
        x.label(4, 2);
        Due.is("both are cut", x.setLimit(0, 1), 2);
    }

    private static void worksThatComeToARoomAreCutByItsLimit() {
        for (int limit = 1; limit <= 4; limit++) {
            VotedLabels x = new VotedLabels();
            x.setLimit(3, limit);
            for (int tongue = 0; tongue < 3; tongue++) {
                Due.text(x, Galleries.words(tongue + 2));
                x.label(6, tongue);
            }
            Due.is("cut by the limit " + limit, x.bring(6, 3), 4 - limit);
            for (int tongue = 0; tongue < 3; tongue++) {
                Due.is("words", x.labelOf(6, tongue, 0), Math.min(limit, tongue + 2));
                Due.is("cuts", x.labelOf(6, tongue, 4), tongue + 2 > limit ? 1 : 0);
            }
        }
    }

    private static void cutsAreCountedEachTime() {
        VotedLabels x = new VotedLabels();
        x.setLimit(0, 15);
        Due.text(x, Galleries.words(15));
        x.label(0, 0);
        for (int limit = 14; limit >= 1; limit--) {
            Due.is("cut to " + limit, x.setLimit(0, limit), 1);
            Due.is("cuts of the label", x.labelOf(0, 0, 4), 15 - limit);
            Due.is("cut so far", x.count(9), 15 - limit);
        }
    }

    private static void aLabelMadeAnewWasNotCutYet() {
        VotedLabels x = new VotedLabels();
        Due.text(x, "a b");
        x.label(0, 0);
        x.setLimit(0, 1);
        x.takeDown(0, 0);
        Due.is("no cuts without a label", x.labelOf(0, 0, 4), NONE);
        x.endWeek();
        Due.text(x, "a");
        x.label(0, 0);
        Due.is("no cuts since", x.labelOf(0, 0, 4), 0);
        Due.is("the weeks by then", x.labelOf(0, 0, 3), 1);
        Due.is("cut so far", x.count(9), 1);
    }

    private static void wordsAreAlikeByAllTheirLetters() {
        VotedLabels x = new VotedLabels();
        Due.text(x, "cat");
        x.label(0, 0);
        String[] others = {"ca", "cats", "at", "scat", "cau", "bat", "c at", "ca t", "cbt"};
        for (String other : others) {
            Due.text(x, other);
            Due.is("no word of '" + other + "'", x.labelsWith(0), 0);
        }
        Due.text(x, "cat");
        Due.is("its word", x.labelsWith(0), 1);
        Due.is("it is the label", x.rewrite(0, 0, 0), VotedLabels.NOT_POSSIBLE);
        Due.text(x, "ca t");
        Due.is("two words are not one", x.rewrite(0, 0, 0), 0);
        Due.is("none in common", x.rewriteOf(0, 6), 3);
        Due.is("it is not the label", x.label(0, 0), 2);
    }

    private static void nothingIsTakenDownTwice() {
        VotedLabels x = new VotedLabels();
        Due.text(x, Galleries.words(15));
        x.setLimit(3, 15);
        x.label(7, 2);
        Due.is("the largest", x.takeDown(7, 2), 15);
        Due.is("twice", x.takeDown(7, 2), NONE);
        Due.is("labels", x.count(0), 0);
        Due.text(x, "a");
        x.label(0, 0);
        Due.is("the smallest", x.takeDown(0, 0), 1);
        Due.is("twice", x.takeDown(0, 0), NONE);
    }
}
