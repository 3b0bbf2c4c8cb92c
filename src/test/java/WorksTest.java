/** Promises 1 to 7: a new object, rooms, works and labels. */
public final class WorksTest {
    public static void main(String[] args) {
        promise1NewObject();
        promise2SetLimit();
        promise2LimitsCutAgain();
        promise3Ask();
        promise4Bring();
        promise4BringToALooserRoom();
        promise5Label();
        promise5Faults();
        promise5TooLong();
        promise6TakeDown();
        promise7SetNeeded();
        Due.end();
    }

    private static void promise1NewObject() {
        VotedLabels x = new VotedLabels();
        for (int work = 0; work < 8; work++) {
            for (int tongue = 0; tongue < 3; tongue++) {
                Due.is("new labelOf", x.labelOf(work, tongue, 0), VotedLabels.NONE);
                Due.is("new ranked", x.ranked(work, tongue, 0), VotedLabels.NONE);
            }
        }
        for (int room = 0; room < 4; room++) {
            Due.is("new limit", x.room(room, 0), 10);
            Due.is("new works", x.room(room, 1), 2);
            Due.is("new asks", x.room(room, 2), 1);
            Due.is("new labels", x.room(room, 3), 0);
            Due.is("new missing", x.room(room, 4), 2);
            Due.is("new others", x.room(room, 5), 0);
            Due.is("new longest", x.room(room, 6), 0);
            Due.is("work is in its room", x.bring(room, room), VotedLabels.NONE);
            Due.is("work is in its room", x.bring(room + 4, room), VotedLabels.NONE);
        }
        int[] counts = {0, 0, 0, 0, 0, 2, 8, 0, 0, 0, 0, 0};
        for (int what = 0; what < counts.length; what++) {
            Due.is("new count(" + what + ")", x.count(what), counts[what]);
        }
        for (int what = 0; what < 4; what++) {
            Due.is("new visitor", x.visitor(9, what), 0);
        }
        Due.is("new undo", x.undo(), VotedLabels.NONE);
        Due.is("new restore", x.restore(), VotedLabels.NONE);
        objectsAreApart();
    }

    private static void objectsAreApart() {
        VotedLabels one = new VotedLabels();
        VotedLabels other = new VotedLabels();
        Due.text(one, "red");
        one.label(0, 0);
        Due.is("other's labels", other.count(0), 0);
        Due.is("other's text", other.count(11), 0);
    }

    private static void promise2SetLimit() {
        VotedLabels x = new VotedLabels();
        Due.is("room -1", x.setLimit(-1, 5), VotedLabels.UNKNOWN);
        Due.is("room 4", x.setLimit(4, 5), VotedLabels.UNKNOWN);
        Due.is("room and limit bad", x.setLimit(4, 0), VotedLabels.UNKNOWN);
        Due.is("limit 0", x.setLimit(0, 0), VotedLabels.BAD_VALUE);
        Due.is("limit 16", x.setLimit(0, 16), VotedLabels.BAD_VALUE);
        Due.is("limit least", x.setLimit(0, Integer.MIN_VALUE), VotedLabels.BAD_VALUE);
        Due.is("limit as it is", x.setLimit(0, 10), VotedLabels.NONE);
        Due.is("nothing recorded", x.count(10), 0);
        Due.text(x, "a bb ccc dd e");
        x.label(0, 0);
        x.label(0, 2);
        x.label(4, 1);
        x.label(1, 0);
        Due.is("nothing cut", x.setLimit(0, 5), 0);
        Due.is("recorded though nothing is cut", x.undo(), 3);
        Due.is("limit is back", x.room(0, 0), 10);
        Due.is("three cut", x.setLimit(0, 3), 3);
        Due.shows(x, 0, 0, "a bb ccc");
        Due.shows(x, 0, 2, "a bb ccc");
        Due.shows(x, 4, 1, "a bb ccc");
        Due.shows(x, 1, 0, "a bb ccc dd e");
        Due.is("words", x.labelOf(4, 1, 0), 3);
        Due.is("characters", x.labelOf(4, 1, 1), 8);
        Due.is("cuts", x.labelOf(4, 1, 4), 1);
        Due.is("cuts of the uncut", x.labelOf(1, 0, 4), 0);
        Due.is("limit", x.room(0, 0), 3);
        Due.is("other limit", x.room(1, 0), 10);
        Due.is("cut so far", x.count(9), 3);
        Due.is("highest", x.setLimit(3, 15), 0);
        Due.is("lowest", x.setLimit(3, 1), 0);
    }

    private static void promise2LimitsCutAgain() {
        VotedLabels x = new VotedLabels();
        Due.text(x, "one two three");
        x.label(2, 0);
        Due.is("cut to two", x.setLimit(2, 2), 1);
        Due.is("more again", x.setLimit(2, 9), 0);
        Due.shows(x, 2, 0, "one two");
        Due.is("cut to one", x.setLimit(2, 1), 1);
        Due.shows(x, 2, 0, "one");
        Due.is("cuts", x.labelOf(2, 0, 4), 2);
        Due.is("cut so far", x.count(9), 2);
        x.setLimit(2, 3);
        Due.is("label anew", x.label(2, 0), 3);
        Due.is("cuts since", x.labelOf(2, 0, 4), 0);
        Due.is("cut so far stays", x.count(9), 2);
    }

    private static void promise3Ask() {
        VotedLabels x = new VotedLabels();
        Due.is("room -1", x.ask(-1, 0, true), VotedLabels.UNKNOWN);
        Due.is("room 4", x.ask(4, 0, true), VotedLabels.UNKNOWN);
        Due.is("tongue -1", x.ask(0, -1, true), VotedLabels.UNKNOWN);
        Due.is("tongue 3", x.ask(0, 3, true), VotedLabels.UNKNOWN);
        Due.is("asks already", x.ask(0, 0, true), VotedLabels.NONE);
        Due.is("does not already", x.ask(0, 1, false), VotedLabels.NONE);
        Due.is("nothing recorded", x.count(10), 0);
        Due.is("asks for 2", x.ask(0, 2, true), 2);
        Due.is("asks for 1", x.ask(0, 1, true), 3);
        Due.is("bits", x.room(0, 2), 7);
        Due.is("no longer for 0", x.ask(0, 0, false), 2);
        Due.is("bits", x.room(0, 2), 6);
        Due.is("no longer for 1", x.ask(0, 1, false), 1);
        Due.is("no longer for 2", x.ask(0, 2, false), 0);
        Due.is("bits of none", x.room(0, 2), 0);
        Due.is("the other room", x.room(1, 2), 1);
        Due.is("recorded", x.undo(), 3);
        Due.is("bits back", x.room(0, 2), 4);
    }

    private static void promise4Bring() {
        VotedLabels x = new VotedLabels();
        Due.is("work -1", x.bring(-1, 0), VotedLabels.UNKNOWN);
        Due.is("work 8", x.bring(8, 0), VotedLabels.UNKNOWN);
        Due.is("room -1", x.bring(0, -1), VotedLabels.UNKNOWN);
        Due.is("room 4", x.bring(0, 4), VotedLabels.UNKNOWN);
        Due.is("there already", x.bring(6, 2), VotedLabels.NONE);
        Due.is("nothing recorded", x.count(10), 0);
        Due.text(x, "x y z");
        x.label(6, 0);
        x.label(6, 1);
        x.label(5, 0);
        x.setLimit(1, 3);
        Due.is("not too long", x.bring(6, 1), 0);
        x.setLimit(0, 2);
        Due.is("two cut", x.bring(6, 0), 2);
        Due.shows(x, 6, 0, "x y");
        Due.shows(x, 6, 1, "x y");
        Due.shows(x, 5, 0, "x y z");
        Due.is("works there", x.room(0, 1), 3);
        Due.is("works before", x.room(1, 1), 2);
        Due.is("works at first", x.room(2, 1), 1);
        Due.is("cut so far", x.count(9), 2);
        Due.is("recorded", x.undo(), 3);
        Due.shows(x, 6, 0, "x y z");
        Due.is("works there", x.room(1, 1), 3);
    }

    private static void promise4BringToALooserRoom() {
        VotedLabels x = new VotedLabels();
        x.setLimit(0, 1);
        Due.text(x, "a b");
        Due.is("too long", x.label(0, 0), VotedLabels.TOO_LONG);
        Due.is("brought", x.bring(0, 1), 0);
        Due.is("limit of the new room", x.label(0, 0), 2);
        x.setLimit(0, 2);
        Due.is("the old room's limit is of no matter", x.setLimit(0, 1), 0);
        Due.is("the new one's cuts", x.setLimit(1, 1), 1);
    }

    private static void promise5Label() {
        VotedLabels x = new VotedLabels();
        Due.text(x, "ab c");
        Due.is("work -1", x.label(-1, 0), VotedLabels.UNKNOWN);
        Due.is("work 8", x.label(8, 0), VotedLabels.UNKNOWN);
        Due.is("tongue -1", x.label(0, -1), VotedLabels.UNKNOWN);
        Due.is("tongue 3", x.label(0, 3), VotedLabels.UNKNOWN);
        Due.is("words", x.label(7, 2), 2);
        Due.is("the text stays", x.count(11), 4);
        Due.shows(x, 7, 2, "ab c");
        Due.is("already", x.label(7, 2), VotedLabels.NONE);
        Due.is("recorded once", x.count(10), 1);
        Due.is("by no visitor", x.labelOf(7, 2, 2), VotedLabels.NONE);
        x.endWeek();
        Due.text(x, "ab d");
        Due.is("other words", x.label(7, 2), 2);
        Due.is("weeks then", x.labelOf(7, 2, 3), 1);
        Due.text(x, "abd");
        Due.is("one word", x.label(7, 2), 1);
        Due.text(x, "ab");
        Due.is("its beginning", x.label(7, 2), 1);
        Due.shows(x, 7, 2, "ab");
        Due.is("labels", x.count(0), 1);
        Due.text(x, "zz");
        Due.shows(x, 7, 2, "ab");
    }

    private static void promise5Faults() {
        VotedLabels x = new VotedLabels();
        String[] texts = {"", " ", " a", "a ", "a  b", "a B", "Ab", "a\tb", "ab{", "ab`", "a-b", "\u00e9", "\u0161"};
        int[] faults = {0, 0, 0, 2, 2, 2, 0, 1, 2, 2, 1, 0, 0};
        for (int i = 0; i < texts.length; i++) {
            Due.text(x, texts[i]);
            Due.is("label of '" + texts[i] + "'", x.label(0, 0), -100 - faults[i]);
        }
        Due.is("work unknown first", x.label(8, 0), VotedLabels.UNKNOWN);
        Due.is("nothing recorded", x.count(10), 0);
        Due.is("no label", x.count(0), 0);
        Due.text(x, "az");
        Due.is("the first and last letter", x.label(0, 0), 1);
        Due.text(x, "a".repeat(59) + " ");
        Due.is("60 characters, a blank at the end", x.label(0, 0), -160);
        Due.text(x, "a".repeat(60));
        Due.is("60 letters", x.label(0, 0), 1);
        Due.is("60 letters", x.labelOf(0, 0, 1), 60);
        Due.text(x, "a b c d e f g h i j k ");
        Due.is("a fault comes ahead of too long", x.label(0, 0), -122);
    }

    private static void promise5TooLong() {
        VotedLabels x = new VotedLabels();
        Due.text(x, "a b c d e f g h i j");
        Due.is("ten", x.label(0, 0), 10);
        Due.type(x, " k");
        Due.is("eleven", x.label(0, 0), VotedLabels.TOO_LONG);
        Due.shows(x, 0, 0, "a b c d e f g h i j");
        Due.type(x, " l m n o");
        x.setLimit(0, 15);
        Due.is("fifteen", x.label(0, 0), 15);
        Due.is("elsewhere", x.label(1, 0), VotedLabels.TOO_LONG);
        Due.type(x, " p");
        Due.is("sixteen", x.label(0, 0), VotedLabels.TOO_LONG);
        Due.text(x, "a b c d e f g h i j k l m n o p q r s t u v w x y z a b c d");
        Due.is("thirty", x.label(0, 0), VotedLabels.TOO_LONG);
        Due.is("thirty", x.labelsWith(0), 1);
    }

    private static void promise6TakeDown() {
        VotedLabels x = new VotedLabels();
        Due.is("work -1", x.takeDown(-1, 0), VotedLabels.UNKNOWN);
        Due.is("work 8", x.takeDown(8, 0), VotedLabels.UNKNOWN);
        Due.is("tongue -1", x.takeDown(0, -1), VotedLabels.UNKNOWN);
        Due.is("tongue 3", x.takeDown(0, 3), VotedLabels.UNKNOWN);
        Due.is("none", x.takeDown(0, 0), VotedLabels.NONE);
        Due.is("nothing recorded", x.count(10), 0);
        Due.text(x, "p q r");
        x.label(3, 1);
        x.label(3, 0);
        Due.is("three words", x.takeDown(3, 1), 3);
        Due.is("gone", x.labelOf(3, 1, 0), VotedLabels.NONE);
        Due.is("gone", x.letter(3, 1, 0), VotedLabels.NONE);
        Due.is("the other stands", x.labelOf(3, 0, 0), 3);
        Due.is("again", x.takeDown(3, 1), VotedLabels.NONE);
        Due.is("the same text is a label again", x.label(3, 1), 3);
        Due.is("undo", x.undo(), 3);
        Due.is("undo", x.undo(), 2);
        Due.shows(x, 3, 1, "p q r");
    }

    private static void promise7SetNeeded() {
        VotedLabels x = new VotedLabels();
        Due.is("0", x.setNeeded(0), VotedLabels.BAD_VALUE);
        Due.is("10", x.setNeeded(10), VotedLabels.BAD_VALUE);
        Due.is("-1", x.setNeeded(-1), VotedLabels.BAD_VALUE);
        Due.is("2 at first", x.setNeeded(2), VotedLabels.NONE);
        Due.is("nothing recorded", x.count(10), 0);
        Due.is("9", x.setNeeded(9), 2);
        Due.is("1", x.setNeeded(1), 9);
        Due.is("1 again", x.setNeeded(1), VotedLabels.NONE);
        Due.is("told", x.count(5), 1);
        Due.is("undo", x.undo(), 1);
        Due.is("told", x.count(5), 9);
    }
}
