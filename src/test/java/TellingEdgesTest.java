/** The edges of what is told: nothing there yet, the smallest and the largest answer of each. */
public final class TellingEdgesTest {
    private static final int NONE = VotedLabels.NONE;

    public static void main(String[] args) {
        allIsToldOfANewObject();
        labelsTellNoneWithoutALabel();
        theFirstAndTheLastLetter();
        theVisitorZeroIsNotNone();
        howFarFromNothing();
        howFarFromTheSame();
        howFarAtMost();
        howFarIsLessByWordsThatStay();
        howFarFromALabelOfSixtyCharacters();
        howFarFromALabelThatIsCut();
        howFarIsToldAnew();
        wordsOfEarlierOnesDoNotCount();
        aRoomWithoutWorks();
        aRoomWithAllLabels();
        aRoomsLongestLabel();
        aVisitorWithoutAnything();
        votesOfAVisitorAtMost();
        labelsOfAVisitorAtMost();
        labelsWithNoneToAll();
        labelsWithTheFirstOrTheLastWord();
        countsOfLabelsAndMissing();
        countsOfVotesAtMost();
        theCallsOfOneObject();
        Due.end();
    }

    private static VotedLabels withText(String text) {
        VotedLabels x = new VotedLabels();
        Due.text(x, text);
        return x;
    }

    private static VotedLabels withAllLabels(String text) {
        VotedLabels x = withText(text);
        for (int place = 0; place < 24; place++) {
            x.label(place / 3, place % 3);
        }
        return x;
    }

    private static void allIsToldOfANewObject() {
        int[] rooms = {10, 2, 1, 0, 2, 0, 0};
        int[] counts = {0, 0, 0, 0, 0, 2, 8, 0, 0, 0, 0, 0};
        VotedLabels x = new VotedLabels();
        for (int room = 0; room < 4; room++) {
            for (int what = 0; what < 7; what++) {
                Due.is("room(" + room + ", " + what + ")", x.room(room, what), rooms[what]);
            }
        }
        for (int visitor = 0; visitor < 10; visitor++) {
            for (int what = 0; what < 4; what++) {
                Due.is("visitor(" + visitor + ", " + what + ")", x.visitor(visitor, what), 0);
            }
        }
        for (int what = 0; what < 12; what++) {
            Due.is("count(" + what + ")", x.count(what), counts[what]);
        }
        x.type('a');
        for (int tongue = 0; tongue < 3; tongue++) {
            Due.is("labelsWith(" + tongue + ")", x.labelsWith(tongue), 0);
        }
    }

    private static void labelsTellNoneWithoutALabel() {
        VotedLabels x = withText("a b");
        x.setNeeded(1);
        x.rewrite(3, 2, 1);
        x.vote(0, 0, true);
        x.endWeek();
        x.setLimit(2, 1);
        int[] told = {1, 1, 3, 0, 1};
        for (int what = 0; what < 5; what++) {
            Due.is("labelOf(2, 1, " + what + ")", x.labelOf(2, 1, what), told[what]);
        }
        x.takeDown(2, 1);
        for (int what = 0; what < 5; what++) {
            Due.is("taken down: " + what, x.labelOf(2, 1, what), NONE);
            Due.is("never there: " + what, x.labelOf(2, 0, what), NONE);
        }
        Due.is("no letter", x.letter(2, 1, 0), NONE);
        Due.is("no labels of the visitor", x.visitor(3, 3), 0);
        Due.is("none of the room", x.room(2, 5), 0);
        Due.is("no longest", x.room(2, 6), 0);
    }

    private static void theFirstAndTheLastLetter() {
        VotedLabels x = withText("az " + "y".repeat(57));
        x.label(0, 0);
        int[] codes = {'a', 'z', ' ', 'y'};
        for (int index = 0; index < codes.length; index++) {
            Due.is("letter " + index, x.letter(0, 0, index), codes[index]);
        }
        Due.is("the last", x.letter(0, 0, 59), 'y');
        Due.is("behind it", x.letter(0, 0, 60), NONE);
        Due.is("far behind it", x.letter(0, 0, Integer.MAX_VALUE), NONE);
        x.setLimit(0, 1);
        Due.is("the last of a cut one", x.letter(0, 0, 1), 'z');
        Due.is("the blank was cut, too", x.letter(0, 0, 2), NONE);
        Due.is("no label in the next tongue", x.letter(0, 1, 0), NONE);
    }

    private static void theVisitorZeroIsNotNone() {
        VotedLabels x = withText("a");
        x.setNeeded(1);
        x.rewrite(0, 0, 0);
        x.vote(9, 0, true);
        x.endWeek();
        Due.is("the visitor 0", x.labelOf(0, 0, 2), 0);
        Due.is("labels of 0", x.visitor(0, 3), 1);
        x.label(1, 0);
        Due.is("none for others", x.labelOf(1, 0, 2), NONE);
        Due.is("labels of 0", x.visitor(0, 3), 1);
        x.label(0, 0);
        Due.is("alike, so it stays the visitor's", x.labelOf(0, 0, 2), 0);
    }

    private static int far(String label, String rewrite) {
        VotedLabels x = new VotedLabels();
        x.setLimit(0, 15);
        Due.text(x, rewrite);
        x.rewrite(0, 0, 0);
        Due.text(x, label);
        x.label(0, 0);
        return x.rewriteOf(0, 6);
    }

    private static void howFarFromNothing() {
        for (int words = 1; words <= 15; words++) {
            Due.is("without a label", far("", Galleries.words(words)), words);
        }
    }

    private static void howFarFromTheSame() {
        for (int words = 1; words <= 15; words++) {
            Due.is("the same", far(Galleries.words(words), Galleries.words(words)), 0);
        }
    }

    private static void howFarAtMost() {
        String others = "z y x w v u t s r q zz yy xx ww vv";
        Due.is("all words are others", far(Galleries.words(15), others), 30);
        Due.is("all of one and fifteen", far("z", Galleries.words(15)), 16);
        Due.is("all of fifteen and one", far(Galleries.words(15), "z"), 16);
        Due.is("one other word", far("a", "b"), 2);
    }

    private static void howFarIsLessByWordsThatStay() {
        Due.is("one put in ahead", far("b c", "a b c"), 1);
        Due.is("one put in between", far("a c", "a b c"), 1);
        Due.is("one put in behind", far("a b", "a b c"), 1);
        Due.is("one taken out ahead", far("a b c", "b c"), 1);
        Due.is("one taken out between", far("a b c", "a c"), 1);
        Due.is("one taken out behind", far("a b c", "a b"), 1);
        Due.is("one is another", far("a b c", "a x c"), 2);
        Due.is("two are swapped", far("a b", "b a"), 2);
        Due.is("turned round", far(Galleries.words(15), "o n m l k j i h g f e d c b a"), 28);
        Due.is("fifteen alike and one", far("a a a a a a a a a a a a a a a", "a"), 14);
        Due.is("each second stays", far("a b c d e f g h i j k l m n o", "a c e g i k m o"), 7);
        Due.is("the longest way is not the first", far("a b c d", "d a b c"), 2);
        Due.is("words, not letters", far("ab cd", "a bcd"), 4);
        Due.is("beginnings are not alike", far("ab", "abc"), 2);
    }

    private static void howFarFromALabelOfSixtyCharacters() {
        String longest = "aaa aab aac aad aae aaf aag aah aai aaj aak aal aam aan aaoo";
        Due.is("the same", far(longest, longest), 0);
        Due.is("the first alone stays", far(longest, "aaa aao"), 15);
        Due.is("the last alone stays", far(longest, "aa aaoo"), 15);
        Due.is("the last is another", far(longest, longest.substring(0, 59)), 2);
        Due.is("the last comes first", far(longest, "aaoo " + longest.substring(0, 55)), 2);
        Due.is("no word stays", far(longest, "q".repeat(60)), 16);
        Due.is("from one word", far("q".repeat(60), longest), 16);
        Due.is("one word of sixty letters", far("q".repeat(60), "q".repeat(60)), 0);
        Due.is("the last letter is another", far("q".repeat(60), "q".repeat(59) + "r"), 2);
    }

    private static void howFarFromALabelThatIsCut() {
        VotedLabels x = withText("a b c d");
        x.label(0, 0);
        Due.text(x, "c d");
        x.rewrite(0, 0, 0);
        Due.is("two are put in", x.rewriteOf(0, 6), 2);
        x.setLimit(0, 2);
        Due.is("none in common", x.rewriteOf(0, 6), 4);
        x.setLimit(0, 1);
        Due.is("from one word", x.rewriteOf(0, 6), 3);
        x.takeDown(0, 0);
        Due.is("its words", x.rewriteOf(0, 6), 2);
    }

    private static void howFarIsToldAnew() {
        VotedLabels x = withText("a b c");
        x.label(0, 0);
        x.rewrite(0, 1, 0);
        Due.text(x, "c a b");
        x.rewrite(0, 0, 0);
        x.label(1, 0);
        Due.text(x, "x y z");
        x.label(2, 0);
        Due.text(x, "z y x");
        x.rewrite(0, 2, 0);
        for (int time = 0; time < 3; time++) {
            Due.is("two in common", x.rewriteOf(1, 6), 2);
            Due.is("two in common", x.rewriteOf(0, 6), 2);
            Due.is("one in common", x.rewriteOf(2, 6), 4);
        }
        x.takeDown(0, 0);
        Due.is("none in common", x.rewriteOf(1, 6), 3);
    }

    private static void wordsOfEarlierOnesDoNotCount() {
        VotedLabels x = withText("a b c");
        x.rewrite(0, 0, 0);
        x.label(1, 0);
        Due.text(x, "a");
        x.rewrite(0, 0, 0);
        x.label(1, 0);
        Due.text(x, "x b c");
        x.label(0, 0);
        x.rewrite(0, 1, 0);
        Due.is("words of an earlier rewrite", x.rewriteOf(1, 6), 4);
        Due.is("words of an earlier label", x.rewriteOf(2, 6), 4);
        Due.text(x, "b");
        Due.is("words of an earlier label", x.labelsWith(0), 1);
    }

    private static void aRoomWithoutWorks() {
        VotedLabels x = withText("a");
        x.label(1, 0);
        x.bring(1, 0);
        x.bring(5, 0);
        int[] empty = {10, 0, 1, 0, 0, 0, 0};
        for (int what = 0; what < 7; what++) {
            Due.is("room(1, " + what + ") without works", x.room(1, what), empty[what]);
        }
        x.ask(1, 1, true);
        x.ask(1, 2, true);
        Due.is("asks for all, none is missing", x.room(1, 4), 0);
        Due.is("missing in all", x.count(6), 7);
    }

    private static void aRoomWithAllLabels() {
        VotedLabels x = withAllLabels("a b");
        for (int work = 0; work < 8; work++) {
            x.bring(work, 3);
        }
        int[] asksForOne = {10, 8, 1, 8, 0, 16, 2};
        int[] asksForAll = {10, 8, 7, 24, 0, 0, 2};
        int[] asksForNone = {10, 8, 0, 0, 0, 24, 2};
        for (int what = 0; what < 7; what++) {
            Due.is("asks for one: " + what, x.room(3, what), asksForOne[what]);
        }
        x.ask(3, 1, true);
        x.ask(3, 2, true);
        for (int what = 0; what < 7; what++) {
            Due.is("asks for all: " + what, x.room(3, what), asksForAll[what]);
        }
        for (int tongue = 0; tongue < 3; tongue++) {
            x.ask(3, tongue, false);
        }
        for (int what = 0; what < 7; what++) {
            Due.is("asks for none: " + what, x.room(3, what), asksForNone[what]);
        }
    }

    private static void aRoomsLongestLabel() {
        for (int place = 0; place < 24; place++) {
            VotedLabels one = withText("a b c");
            one.label(place / 3, place % 3);
            Due.is("of its room", one.room(place / 3 % 4, 6), 3);
            Due.is("of the next room", one.room((place / 3 + 1) % 4, 6), 0);
        }
        VotedLabels x = new VotedLabels();
        x.setLimit(2, 15);
        Due.text(x, "q".repeat(60));
        x.label(2, 0);
        Due.is("one long word", x.room(2, 6), 1);
        Due.text(x, Galleries.words(15));
        x.label(6, 2);
        Due.is("the largest", x.room(2, 6), 15);
        Due.is("of another room", x.room(1, 6), 0);
        x.setLimit(2, 14);
        Due.is("cut", x.room(2, 6), 14);
        x.takeDown(6, 2);
        Due.is("the other is left", x.room(2, 6), 1);
        x.takeDown(2, 0);
        Due.is("without a label", x.room(2, 6), 0);
    }

    private static void aVisitorWithoutAnything() {
        VotedLabels x = withText("a");
        x.rewrite(4, 0, 0);
        x.vote(3, 0, true);
        x.vote(5, 0, true);
        x.endWeek();
        for (int what = 0; what < 4; what++) {
            Due.is("visitor 3: " + what, x.visitor(3, what), 0);
            Due.is("visitor 5: " + what, x.visitor(5, what), 0);
            Due.is("visitor 4: " + what, x.visitor(4, what), what % 2);
        }
    }

    private static void votesOfAVisitorAtMost() {
        VotedLabels x = withText("a");
        for (int i = 0; i < 16; i++) {
            x.rewrite(0, i / 2, i % 2);
            x.vote(9, i, true);
            Due.is("votes of 9", x.visitor(9, 2), i + 1);
            Due.is("votes of 0", x.visitor(0, 2), 0);
        }
    }

    private static void labelsOfAVisitorAtMost() {
        VotedLabels x = withText("a b");
        x.setNeeded(1);
        for (int place = 0; place < 24; place++) {
            x.rewrite(7, place / 3, place % 3);
            x.vote(8, place, true);
            if (place % 12 == 11) {
                Due.is("twelve", x.endWeek(), 12);
            }
        }
        Due.is("all accepted", x.visitor(7, 1), 24);
        Due.is("all stand", x.visitor(7, 3), 24);
        Due.is("none is left", x.visitor(7, 0), 0);
        for (int room = 0; room < 4; room++) {
            Due.is("six are cut", x.setLimit(room, 1), 6);
        }
        Due.is("cut ones, too", x.visitor(7, 3), 24);
        Due.text(x, "b");
        x.label(0, 0);
        Due.is("one is replaced", x.visitor(7, 3), 23);
        x.takeDown(7, 2);
        Due.is("one is taken down", x.visitor(7, 3), 22);
        Due.is("accepted so far", x.visitor(7, 1), 24);
    }

    private static void labelsWithNoneToAll() {
        VotedLabels x = withText("cat");
        for (int work = 0; work < 8; work++) {
            Due.is("with it", x.labelsWith(2), work);
            x.label(work, 2);
        }
        Due.is("all", x.labelsWith(2), 8);
        Due.is("none of another tongue", x.labelsWith(1), 0);
        Due.is("none of another tongue", x.labelsWith(0), 0);
        Due.text(x, "dog");
        Due.is("none", x.labelsWith(2), 0);
        Due.text(x, "dog cat cat");
        Due.is("all, once each", x.labelsWith(2), 8);
    }

    private static void labelsWithTheFirstOrTheLastWord() {
        VotedLabels x = withText("one two three");
        x.label(4, 1);
        String[] with = {"one", "two", "three", "one x", "x one", "x y three", "three x y", "x two y"};
        for (String text : with) {
            Due.text(x, text);
            Due.is("'" + text + "'", x.labelsWith(1), 1);
        }
        String[] without = {"o", "on", "ones", "ne", "thre", "hree", "threes", "onetwo", "tw o"};
        for (String text : without) {
            Due.text(x, text);
            Due.is("'" + text + "'", x.labelsWith(1), 0);
        }
        x.setLimit(0, 1);
        Due.text(x, "two three");
        Due.is("words that were cut", x.labelsWith(1), 0);
    }

    private static void countsOfLabelsAndMissing() {
        VotedLabels x = new VotedLabels();
        for (int room = 0; room < 4; room++) {
            x.ask(room, 1, true);
            x.ask(room, 2, true);
        }
        Due.is("all are missing", x.count(6), 24);
        for (int room = 0; room < 4; room++) {
            Due.is("of a room", x.room(room, 4), 6);
        }
        x = withAllLabels("a");
        Due.is("labels", x.count(0), 24);
        Due.is("none is missing", x.count(6), 0);
        x.takeDown(7, 1);
        Due.is("one not asked for is not missing", x.count(6), 0);
        x.takeDown(7, 0);
        Due.is("one asked for is", x.count(6), 1);
        x.ask(3, 1, true);
        Due.is("and the other, as it is asked for", x.count(6), 2);
        x.bring(7, 0);
        Due.is("not asked for in the other room", x.count(6), 1);
        Due.is("labels", x.count(0), 22);
    }

    private static void countsOfVotesAtMost() {
        VotedLabels x = withText("a");
        for (int i = 0; i < 16; i++) {
            x.rewrite(i % 10, i % 8, i / 8);
            for (int visitor = 0; visitor < 10; visitor++) {
                x.vote(visitor, i, true);
            }
            Due.is("votes", x.count(3), 9 * (i + 1));
        }
        Due.is("votes of 0", x.visitor(0, 2), 14);
        Due.is("votes of 9", x.visitor(9, 2), 15);
        Due.is("all are accepted", x.endWeek(), 16);
        Due.is("votes", x.count(3), 0);
        Due.is("rewrites", x.count(1), 0);
        Due.is("rewritten", x.count(7), 16);
    }

    private static void theCallsOfOneObject() {
        VotedLabels x = withText("a");
        for (int call = 1; call < 510; call++) {
            x.setLimit(0, 1 + call % 15);
        }
        Due.is("the 512th call", x.room(0, 0), 15);
    }
}
