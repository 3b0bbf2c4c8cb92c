/** Promises 16 to 23, and the constants: what is told. */
public final class TellingTest {
    public static void main(String[] args) {
        constants();
        promise16LabelOf();
        promise17Letter();
        promise18RewriteOf();
        promise18HowFar();
        promise18HowFarOfAShorterOne();
        promise18WouldBecome();
        promise19Ranked();
        promise20Room();
        promise20RoomOfEachWork();
        promise21Visitor();
        promise22LabelsWith();
        promise22ThirtyWords();
        promise23Count();
        Due.end();
    }

    private static void constants() {
        Due.is("UNKNOWN", VotedLabels.UNKNOWN, -1);
        Due.is("BAD_VALUE", VotedLabels.BAD_VALUE, -2);
        Due.is("FULL", VotedLabels.FULL, -3);
        Due.is("NOT_POSSIBLE", VotedLabels.NOT_POSSIBLE, -4);
        Due.is("NONE", VotedLabels.NONE, -5);
        Due.is("TOO_LONG", VotedLabels.TOO_LONG, -6);
    }

    private static void promise16LabelOf() {
        VotedLabels x = new VotedLabels();
        Due.is("work -1", x.labelOf(-1, 0, 0), VotedLabels.UNKNOWN);
        Due.is("work 8", x.labelOf(8, 0, 9), VotedLabels.UNKNOWN);
        Due.is("tongue -1", x.labelOf(0, -1, 0), VotedLabels.UNKNOWN);
        Due.is("tongue 3", x.labelOf(0, 3, 0), VotedLabels.UNKNOWN);
        Due.is("what -1, without a label", x.labelOf(0, 0, -1), VotedLabels.BAD_VALUE);
        Due.is("what 5, without a label", x.labelOf(0, 0, 5), VotedLabels.BAD_VALUE);
        for (int what = 0; what < 5; what++) {
            Due.is("without a label", x.labelOf(0, 0, what), VotedLabels.NONE);
        }
        Due.text(x, "one two three");
        x.setNeeded(1);
        x.endWeek();
        x.rewrite(6, 0, 0);
        x.vote(0, 0, true);
        x.endWeek();
        x.endWeek();
        Due.is("words", x.labelOf(0, 0, 0), 3);
        Due.is("characters", x.labelOf(0, 0, 1), 13);
        Due.is("visitor", x.labelOf(0, 0, 2), 6);
        Due.is("weeks", x.labelOf(0, 0, 3), 1);
        Due.is("cuts", x.labelOf(0, 0, 4), 0);
        x.setLimit(0, 2);
        x.setLimit(1, 1);
        Due.is("characters after a cut", x.labelOf(0, 0, 1), 7);
        x.bring(0, 1);
        Due.is("words after cuts", x.labelOf(0, 0, 0), 1);
        Due.is("characters after cuts", x.labelOf(0, 0, 1), 3);
        Due.is("visitor after cuts", x.labelOf(0, 0, 2), 6);
        Due.is("weeks after cuts", x.labelOf(0, 0, 3), 1);
        Due.is("cuts", x.labelOf(0, 0, 4), 2);
        Due.is("what 5", x.labelOf(0, 0, 5), VotedLabels.BAD_VALUE);
        x.takeDown(0, 0);
        Due.is("taken down", x.labelOf(0, 0, 2), VotedLabels.NONE);
        Due.is("taken down", x.labelOf(0, 0, 4), VotedLabels.NONE);
        Due.text(x, "own");
        x.label(0, 0);
        Due.is("no visitor's", x.labelOf(0, 0, 2), VotedLabels.NONE);
        Due.is("weeks", x.labelOf(0, 0, 3), 3);
        Due.is("cuts", x.labelOf(0, 0, 4), 0);
    }

    private static void promise17Letter() {
        VotedLabels x = new VotedLabels();
        Due.is("work 8", x.letter(8, 0, -1), VotedLabels.UNKNOWN);
        Due.is("work -1", x.letter(-1, 0, 0), VotedLabels.UNKNOWN);
        Due.is("tongue 3", x.letter(0, 3, 0), VotedLabels.UNKNOWN);
        Due.is("tongue -1", x.letter(0, -1, 0), VotedLabels.UNKNOWN);
        Due.is("index -1, without a label", x.letter(0, 0, -1), VotedLabels.BAD_VALUE);
        Due.is("without a label", x.letter(0, 0, 0), VotedLabels.NONE);
        Due.text(x, "az b");
        x.label(0, 0);
        Due.is("a", x.letter(0, 0, 0), 97);
        Due.is("z", x.letter(0, 0, 1), 122);
        Due.is("blank", x.letter(0, 0, 2), 32);
        Due.is("b", x.letter(0, 0, 3), 98);
        Due.is("behind it", x.letter(0, 0, 4), VotedLabels.NONE);
        Due.is("far behind it", x.letter(0, 0, Integer.MAX_VALUE), VotedLabels.NONE);
        Due.is("index -1", x.letter(0, 0, -1), VotedLabels.BAD_VALUE);
        x.setLimit(0, 1);
        Due.is("cut", x.letter(0, 0, 2), VotedLabels.NONE);
        Due.text(x, "b".repeat(60));
        x.label(1, 0);
        Due.is("the 60th", x.letter(1, 0, 59), 98);
        Due.is("the 61st", x.letter(1, 0, 60), VotedLabels.NONE);
    }

    private static void promise18RewriteOf() {
        VotedLabels x = new VotedLabels();
        Due.is("none yet", x.rewriteOf(0, 0), VotedLabels.UNKNOWN);
        Due.is("-1", x.rewriteOf(-1, 9), VotedLabels.UNKNOWN);
        Due.text(x, "p q");
        x.rewrite(8, 7, 1);
        Due.is("what -1", x.rewriteOf(0, -1), VotedLabels.BAD_VALUE);
        Due.is("what 8", x.rewriteOf(0, 8), VotedLabels.BAD_VALUE);
        Due.is("not given", x.rewriteOf(1, 8), VotedLabels.UNKNOWN);
        x.vote(1, 0, true);
        x.endWeek();
        x.endWeek();
        int[] told = {7, 1, 8, 2, 1, 2, 2, 0};
        for (int what = 0; what < told.length; what++) {
            Due.is("rewriteOf(0, " + what + ")", x.rewriteOf(0, what), told[what]);
        }
        x.endWeek();
        Due.is("gone", x.rewriteOf(0, 0), VotedLabels.UNKNOWN);
    }

    private static void promise18HowFar() {
        String[] labels = {"a b c d", "a b c", "a a a", "a b", "b a", "ab", "a", "a b c", "x a y b z", "a b a b",
            "the cat sat on the mat", "a b c d e f g h i j", "b c a c b", "a a b a b b"};
        String[] rewrites = {"a x c", "c b a", "a", "ab", "a b", "a b", "b", "d a b c", "a b", "b a b a",
            "the mat sat on the cat", "j i h g f e d c b a", "c b c a a b", "b a b b a a b"};
        int[] far = {3, 4, 2, 3, 2, 3, 2, 1, 3, 2, 4, 18, 3, 5};
        for (int i = 0; i < labels.length; i++) {
            VotedLabels x = new VotedLabels();
            Due.text(x, rewrites[i]);
            x.rewrite(0, 0, 0);
            int words = x.rewriteOf(0, 3);
            Due.is("without a label", x.rewriteOf(0, 6), words);
            Due.text(x, labels[i]);
            x.label(0, 0);
            Due.is("'" + rewrites[i] + "' from '" + labels[i] + "'", x.rewriteOf(0, 6), far[i]);
            Due.is("told again", x.rewriteOf(0, 6), far[i]);
            x.takeDown(0, 0);
            Due.is("without a label again", x.rewriteOf(0, 6), words);
        }
        VotedLabels x = new VotedLabels();
        x.setLimit(0, 15);
        Due.text(x, "a b c d e f g h i j k l m n o");
        x.rewrite(0, 0, 0);
        Due.text(x, "q a b c d e f g h i j k l m n");
        x.label(0, 0);
        Due.is("fifteen words", x.rewriteOf(0, 6), 2);
        x.setLimit(0, 3);
        Due.is("from the cut label", x.rewriteOf(0, 6), 14);
    }

    private static void promise18HowFarOfAShorterOne() {
        VotedLabels x = new VotedLabels();
        Due.text(x, "a b");
        x.label(0, 0);
        Due.text(x, "a b c");
        x.rewrite(0, 0, 0);
        Due.is("one put in", x.rewriteOf(0, 6), 1);
        Due.text(x, "a");
        x.rewrite(0, 0, 0);
        Due.is("words of the earlier do not count", x.rewriteOf(1, 6), 1);
        x.setLimit(0, 1);
        Due.is("words that were cut do not count", x.rewriteOf(1, 6), 0);
        Due.is("words", x.rewriteOf(1, 3), 1);
    }

    private static void promise18WouldBecome() {
        VotedLabels x = new VotedLabels();
        Due.text(x, "a b");
        x.rewrite(0, 0, 0);
        Due.text(x, "a");
        x.rewrite(1, 0, 0);
        x.rewrite(2, 0, 0);
        x.rewrite(2, 0, 1);
        Due.is("no votes", x.rewriteOf(0, 7), 0);
        x.vote(5, 0, true);
        Due.is("too few", x.rewriteOf(0, 7), 0);
        x.vote(6, 0, true);
        Due.is("enough", x.rewriteOf(0, 7), 1);
        x.vote(7, 2, true);
        x.vote(8, 2, true);
        Due.is("one has fewer words", x.rewriteOf(0, 7), 0);
        Due.is("fewer words", x.rewriteOf(2, 7), 1);
        x.vote(3, 1, true);
        x.vote(4, 1, true);
        Due.is("lower number", x.rewriteOf(1, 7), 1);
        Due.is("higher number", x.rewriteOf(2, 7), 0);
        x.vote(9, 0, true);
        Due.is("most votes", x.rewriteOf(0, 7), 1);
        x.setLimit(0, 1);
        Due.is("too long", x.rewriteOf(0, 7), 0);
        Due.is("next", x.rewriteOf(1, 7), 1);
        x.setNeeded(3);
        Due.is("more needed", x.rewriteOf(1, 7), 0);
        x.bring(0, 1);
        Due.is("not too long there", x.rewriteOf(0, 7), 1);
        Due.is("as it becomes", x.endWeek(), 1);
        Due.shows(x, 0, 0, "a b");
    }

    private static void promise19Ranked() {
        VotedLabels x = new VotedLabels();
        Due.is("work 8", x.ranked(8, 0, -1), VotedLabels.UNKNOWN);
        Due.is("work -1", x.ranked(-1, 0, 0), VotedLabels.UNKNOWN);
        Due.is("tongue 3", x.ranked(0, 3, 0), VotedLabels.UNKNOWN);
        Due.is("tongue -1", x.ranked(0, -1, 0), VotedLabels.UNKNOWN);
        Due.is("rank -1", x.ranked(0, 0, -1), VotedLabels.BAD_VALUE);
        Due.is("none", x.ranked(0, 0, 0), VotedLabels.NONE);
        Due.text(x, "a");
        x.rewrite(0, 5, 2);
        x.rewrite(1, 5, 2);
        x.rewrite(2, 4, 2);
        x.rewrite(2, 5, 1);
        Due.text(x, "a b c");
        x.rewrite(3, 5, 2);
        x.rewrite(4, 5, 2);
        x.vote(6, 5, true);
        x.vote(7, 5, true);
        x.vote(8, 4, true);
        x.vote(9, 1, true);
        int[] order = {5, 1, 4, 0};
        for (int rank = 0; rank < order.length; rank++) {
            Due.is("rank " + rank, x.ranked(5, 2, rank), order[rank]);
        }
        Due.is("rank 4", x.ranked(5, 2, 4), VotedLabels.NONE);
        Due.is("greatest rank", x.ranked(5, 2, Integer.MAX_VALUE), VotedLabels.NONE);
        Due.is("other work", x.ranked(4, 2, 0), 2);
        Due.is("other tongue", x.ranked(5, 1, 0), 3);
        x.rewrite(1, 5, 2);
        Due.is("behind now", x.ranked(5, 2, 3), 6);
    }

    private static void promise20Room() {
        VotedLabels x = new VotedLabels();
        Due.is("room -1", x.room(-1, 0), VotedLabels.UNKNOWN);
        Due.is("room 4", x.room(4, 7), VotedLabels.UNKNOWN);
        Due.is("what -1", x.room(0, -1), VotedLabels.BAD_VALUE);
        Due.is("what 7", x.room(0, 7), VotedLabels.BAD_VALUE);
        Due.text(x, "a b c");
        x.label(1, 0);
        x.label(5, 1);
        Due.text(x, "aaaaaaaaaa bbbbbb");
        x.label(5, 2);
        x.bring(0, 1);
        x.label(0, 0);
        x.ask(1, 2, true);
        x.setLimit(1, 9);
        int[] told = {9, 3, 5, 3, 3, 1, 3};
        for (int what = 0; what < told.length; what++) {
            Due.is("room(1, " + what + ")", x.room(1, what), told[what]);
        }
        int[] left = {10, 1, 1, 0, 1, 0, 0};
        for (int what = 0; what < left.length; what++) {
            Due.is("room(0, " + what + ")", x.room(0, what), left[what]);
        }
        x.ask(1, 0, false);
        x.ask(1, 2, false);
        Due.is("asks for none", x.room(1, 3), 0);
        Due.is("none missing", x.room(1, 4), 0);
        Due.is("all are others", x.room(1, 5), 4);
        x.takeDown(1, 0);
        x.takeDown(5, 1);
        Due.is("longest is left", x.room(1, 6), 2);
    }

    private static void promise20RoomOfEachWork() {
        for (int work = 0; work < 8; work++) {
            for (int tongue = 0; tongue < 3; tongue++) {
                VotedLabels x = new VotedLabels();
                Due.text(x, "a b c");
                x.label(work, tongue);
                for (int room = 0; room < 4; room++) {
                    boolean holds = room == work % 4;
                    Due.is("longest", x.room(room, 6), holds ? 3 : 0);
                    Due.is("asked for", x.room(room, 3), holds && tongue == 0 ? 1 : 0);
                    Due.is("missing", x.room(room, 4), holds && tongue == 0 ? 1 : 2);
                    Due.is("other tongues", x.room(room, 5), holds && tongue > 0 ? 1 : 0);
                }
                Due.is("missing in all", x.count(6), tongue == 0 ? 7 : 8);
            }
        }
    }

    private static void promise21Visitor() {
        VotedLabels x = new VotedLabels();
        Due.is("visitor -1", x.visitor(-1, 0), VotedLabels.UNKNOWN);
        Due.is("visitor 10", x.visitor(10, 4), VotedLabels.UNKNOWN);
        Due.is("what -1", x.visitor(0, -1), VotedLabels.BAD_VALUE);
        Due.is("what 4", x.visitor(0, 4), VotedLabels.BAD_VALUE);
        x.setNeeded(1);
        Due.text(x, "a b");
        x.rewrite(4, 0, 0);
        x.rewrite(4, 0, 1);
        x.rewrite(4, 1, 0);
        x.rewrite(5, 1, 0);
        x.vote(6, 0, true);
        x.vote(6, 1, true);
        x.vote(4, 3, true);
        Due.is("rewrites of 4", x.visitor(4, 0), 3);
        Due.is("votes of 4, not for 4", x.visitor(4, 2), 1);
        Due.is("votes of 6", x.visitor(6, 2), 2);
        Due.is("labels of 4", x.visitor(4, 3), 0);
        x.endWeek();
        Due.is("rewrites of 4", x.visitor(4, 0), 1);
        Due.is("accepted of 4", x.visitor(4, 1), 2);
        Due.is("accepted of 5", x.visitor(5, 1), 1);
        Due.is("votes of 6", x.visitor(6, 2), 0);
        Due.is("labels of 4", x.visitor(4, 3), 2);
        x.setLimit(0, 1);
        Due.is("cut ones, too", x.visitor(4, 3), 2);
        x.takeDown(0, 1);
        Due.is("taken down", x.visitor(4, 3), 1);
        Due.text(x, "b");
        x.label(0, 0);
        Due.is("replaced", x.visitor(4, 3), 0);
        Due.is("accepted so far", x.visitor(4, 1), 2);
    }

    private static void promise22LabelsWith() {
        VotedLabels x = new VotedLabels();
        Due.is("tongue -1", x.labelsWith(-1), VotedLabels.UNKNOWN);
        Due.is("tongue 3", x.labelsWith(3), VotedLabels.UNKNOWN);
        Due.is("empty", x.labelsWith(0), -100);
        Due.text(x, "cat dog");
        x.label(0, 0);
        x.label(0, 1);
        Due.text(x, "dogs cats");
        x.label(1, 0);
        Due.text(x, "a dog");
        x.label(2, 0);
        Due.is("the blank's fault", x.type(' '), 6);
        Due.is("fault", x.labelsWith(0), -106);
        Due.text(x, "dog");
        Due.is("dog", x.labelsWith(0), 2);
        Due.is("dog in the tongue 1", x.labelsWith(1), 1);
        Due.is("dog in the tongue 2", x.labelsWith(2), 0);
        Due.text(x, "x dogs y a");
        Due.is("any of the words", x.labelsWith(0), 2);
        Due.text(x, "dog dog cat");
        Due.is("each label once", x.labelsWith(0), 2);
        Due.text(x, "do og catd d ca");
        Due.is("whole words", x.labelsWith(0), 0);
        x.setLimit(0, 1);
        Due.text(x, "dog");
        Due.is("cut words no longer", x.labelsWith(1), 0);
        Due.text(x, "z z z z z z z z z z z z cat");
        Due.is("more words than the limit", x.labelsWith(1), 1);
        x.takeDown(0, 1);
        Due.is("taken down", x.labelsWith(1), 0);
        Due.is("no act", x.count(10), 4);
    }

    private static void promise22ThirtyWords() {
        VotedLabels x = new VotedLabels();
        x.setLimit(0, 15);
        Due.text(x, "q r s t u v w x y z qq r s t u");
        Due.is("fifteen", x.label(0, 0), 15);
        x.label(4, 0);
        Due.text(x, "a b c d e f g h i j k l m n o p a b c d e f g h i j k l m n");
        Due.is("none of thirty words", x.labelsWith(0), 0);
        x.type('q');
        Due.is("thirty words, the last of two letters", x.labelsWith(0), 0);
        Due.text(x, "a b c d e f g h i j k l m n o p a b c d e f g h i j k l m qq");
        Due.is("the thirtieth", x.labelsWith(0), 2);
    }

    private static void promise23Count() {
        VotedLabels x = new VotedLabels();
        Due.is("what -1", x.count(-1), VotedLabels.BAD_VALUE);
        Due.is("what 12", x.count(12), VotedLabels.BAD_VALUE);
        Due.text(x, "a b c");
        x.setNeeded(1);
        x.rewrite(0, 0, 0);
        x.rewrite(1, 1, 0);
        x.rewrite(1, 1, 0);
        x.rewrite(2, 2, 1);
        x.vote(3, 0, true);
        x.vote(3, 2, true);
        x.endWeek();
        x.label(5, 1);
        x.ask(3, 1, true);
        x.rewrite(7, 7, 2);
        x.vote(1, 4, true);
        x.vote(2, 4, true);
        x.setNeeded(3);
        x.endWeek();
        x.setLimit(1, 2);
        x.setLimit(1, 1);
        x.endWeek();
        x.undo();
        x.endWeek();
        int[] told = {3, 1, 5, 2, 3, 3, 8, 2, 1, 4, 4, 5};
        for (int what = 0; what < told.length; what++) {
            Due.is("count(" + what + ")", x.count(what), told[what]);
        }
    }
}
