/** Promises 13 to 15: undo and the snapshot. */
public final class HistoryTest {
    public static void main(String[] args) {
        promise13Undo();
        promise13OnlyFour();
        promise13EachAct();
        promise13RoundTheRing();
        promise14Keep();
        promise15Restore();
        promise15SnapshotIsNoState();
        promise15RestoresAllOfLabelsAndRewrites();
        Due.end();
    }

    private static void promise13Undo() {
        VotedLabels x = new VotedLabels();
        Due.is("empty", x.undo(), VotedLabels.NONE);
        Due.text(x, "a b c");
        x.label(0, 0);
        x.setLimit(0, 2);
        Due.is("one left", x.undo(), 1);
        Due.shows(x, 0, 0, "a b c");
        Due.is("cuts back", x.labelOf(0, 0, 4), 0);
        Due.is("cut so far back", x.count(9), 0);
        Due.is("none left", x.undo(), 0);
        Due.is("no label", x.count(0), 0);
        Due.is("empty", x.undo(), VotedLabels.NONE);
    }

    private static void promise13OnlyFour() {
        VotedLabels x = new VotedLabels();
        for (int i = 1; i <= 6; i++) {
            x.setLimit(0, i);
            Due.is("states", x.count(10), Math.min(i, 4));
        }
        for (int i = 3; i >= 0; i--) {
            Due.is("undo", x.undo(), i);
            Due.is("limit", x.room(0, 0), i + 2);
        }
        Due.is("the oldest were dropped", x.undo(), VotedLabels.NONE);
        Due.is("limit", x.room(0, 0), 2);
    }

    private static void promise13EachAct() {
        VotedLabels x = new VotedLabels();
        Due.text(x, "a b");
        x.label(0, 0);
        x.endWeek();
        x.rewrite(0, 1, 0);
        x.vote(1, 0, true);
        x.undo();
        Due.is("vote undone", x.count(3), 0);
        x.undo();
        Due.is("rewrite undone", x.count(1), 0);
        x.undo();
        Due.is("week undone", x.count(4), 0);
        x.undo();
        Due.is("label undone", x.count(0), 0);
        x.label(0, 0);
        x.takeDown(0, 0);
        x.bring(0, 3);
        x.ask(0, 1, true);
        x.undo();
        Due.is("ask undone", x.room(0, 2), 1);
        x.undo();
        Due.is("bring undone", x.room(3, 1), 2);
        x.undo();
        Due.shows(x, 0, 0, "a b");
        Due.is("left", x.count(10), 1);
        x.setNeeded(4);
        x.setLimit(2, 4);
        x.undo();
        Due.is("limit undone", x.room(2, 0), 10);
        x.undo();
        Due.is("needed undone", x.count(5), 2);
    }

    private static void promise13RoundTheRing() {
        VotedLabels x = new VotedLabels();
        for (int i = 1; i <= 9; i++) {
            x.setNeeded(i == 2 ? 9 : i);
            if (i % 3 == 0) {
                x.undo();
            }
        }
        Due.is("states", x.count(10), 3);
        Due.is("needed", x.count(5), 8);
        x.undo();
        Due.is("needed", x.count(5), 7);
        x.undo();
        Due.is("needed", x.count(5), 5);
        Due.is("last", x.undo(), 0);
        Due.is("needed", x.count(5), 4);
    }

    private static void promise14Keep() {
        VotedLabels x = new VotedLabels();
        Due.is("no labels", x.keep(), 0);
        Due.text(x, "a b");
        x.label(0, 0);
        x.label(0, 1);
        Due.is("two labels", x.keep(), 2);
        Due.is("no act", x.count(10), 2);
        x.takeDown(0, 0);
        x.setLimit(0, 1);
        Due.is("in place of the one that was", x.keep(), 1);
        x.takeDown(0, 1);
        Due.is("the latest", x.restore(), 1);
        Due.shows(x, 0, 1, "a");
        Due.is("limit", x.room(0, 0), 1);
    }

    private static void promise15Restore() {
        VotedLabels x = new VotedLabels();
        Due.is("none", x.restore(), VotedLabels.NONE);
        Due.is("nothing recorded", x.count(10), 0);
        Due.text(x, "a b");
        x.label(4, 0);
        x.rewrite(3, 5, 2);
        x.vote(2, 0, true);
        x.keep();
        x.takeDown(4, 0);
        x.vote(4, 0, true);
        x.endWeek();
        x.bring(4, 1);
        x.ask(2, 2, true);
        x.setNeeded(7);
        Due.is("one label", x.restore(), 1);
        Due.shows(x, 4, 0, "a b");
        Due.is("votes", x.rewriteOf(0, 4), 1);
        Due.is("rewrites", x.count(1), 1);
        Due.is("weeks", x.count(4), 0);
        Due.is("works", x.room(1, 1), 2);
        Due.is("asks", x.room(2, 2), 1);
        Due.is("needed", x.count(5), 2);
        Due.is("accepted", x.visitor(3, 1), 0);
        Due.is("an act, so recorded", x.undo(), 3);
        Due.is("needed before", x.count(5), 7);
        Due.is("weeks before", x.count(4), 1);
        Due.is("accepted before", x.visitor(3, 1), 1);
        Due.is("the snapshot stays", x.restore(), 1);
        Due.is("also if it is so already", x.restore(), 1);
        Due.is("recorded too", x.undo(), 3);
        Due.is("so it is as before", x.count(5), 2);
    }

    private static void promise15SnapshotIsNoState() {
        VotedLabels x = new VotedLabels();
        Due.text(x, "a b");
        x.label(0, 0);
        x.keep();
        x.undo();
        Due.is("undo leaves the snapshot", x.restore(), 1);
        x.takeDown(0, 0);
        x.takeDown(0, 1);
        Due.is("changes leave the snapshot", x.restore(), 1);
        Due.is("history is no state", x.count(10), 3);
    }

    private static void promise15RestoresAllOfLabelsAndRewrites() {
        VotedLabels x = new VotedLabels();
        Due.text(x, "a b");
        x.endWeek();
        x.rewrite(7, 5, 2);
        x.vote(1, 0, true);
        x.vote(2, 0, true);
        x.endWeek();
        Due.text(x, "c d e");
        x.rewrite(6, 5, 2);
        x.endWeek();
        x.vote(3, 1, true);
        x.keep();
        // the row of the rewrite that is kept is used for others
        x.vote(4, 1, true);
        x.endWeek();
        Due.text(x, "f");
        x.rewrite(2, 1, 0);
        x.label(5, 2);
        x.restore();
        int[] label = {2, 3, 7, 1, 0};
        for (int what = 0; what < label.length; what++) {
            Due.is("labelOf " + what, x.labelOf(5, 2, what), label[what]);
        }
        int[] rewrite = {5, 2, 6, 3, 1, 1, 5, 0};
        for (int what = 0; what < rewrite.length; what++) {
            Due.is("rewriteOf " + what, x.rewriteOf(1, what), rewrite[what]);
        }
        Due.is("rewrites", x.count(1), 1);
        Due.is("so far", x.count(2), 2);
        x.undo();
        Due.is("no visitor's before", x.labelOf(5, 2, 2), VotedLabels.NONE);
        Due.is("weeks before", x.labelOf(5, 2, 3), 4);
        Due.is("rewrite before", x.rewriteOf(2, 2), 2);
        Due.is("work before", x.rewriteOf(2, 0), 1);
        x.vote(8, 1, true);
        Due.is("gone before", x.rewriteOf(1, 0), VotedLabels.UNKNOWN);
    }
}
