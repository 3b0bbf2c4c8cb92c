import java.util.ArrayList;
import java.util.List;
import java.util.function.ToIntFunction;

/** The edges of the history and the snapshot: empty, one state, four, one more than four. */
public final class HistoryEdgesTest {
    private static final int NONE = VotedLabels.NONE;

    private record Act(String name, ToIntFunction<VotedLabels> call) {
    }

    public static void main(String[] args) {
        historyIsEmptyAtFirst();
        oneToFourStates();
        theFifthDropsTheOldest();
        allAreUndoneAndRecordedAnew();
        eachActRecordsTheStateBeforeIt();
        actsThatAnswerZeroAreRecorded();
        othersAreNoActs();
        undoIsNoActItself();
        thereIsNoSnapshotAtFirst();
        theSnapshotOfNothing();
        theSnapshotIsReplaced();
        theSnapshotStays();
        restoreRecordsEvenIfNothingChanges();
        restoreDropsTheOldestToo();
        theSnapshotIsAllOfTheState();
        eachRoomIsOfTheState();
        eachWorkIsOfTheState();
        eachLabelIsOfTheState();
        eachVisitorIsOfTheState();
        eachRewriteIsOfTheState();
        theTextIsNoState();
        theHistoryIsNoState();
        Due.end();
    }

    private static void historyIsEmptyAtFirst() {
        VotedLabels x = new VotedLabels();
        Due.is("states", x.count(10), 0);
        Due.is("undo", x.undo(), NONE);
        Due.is("undo again", x.undo(), NONE);
        Due.is("states", x.count(10), 0);
    }

    private static void oneToFourStates() {
        for (int acts = 1; acts <= 4; acts++) {
            VotedLabels x = new VotedLabels();
            for (int i = 1; i <= acts; i++) {
                x.setLimit(0, i);
                Due.is("states", x.count(10), i);
            }
            for (int left = acts - 1; left >= 0; left--) {
                Due.is("undo", x.undo(), left);
                Due.is("states", x.count(10), left);
                Due.is("limit", x.room(0, 0), left == 0 ? 10 : left);
            }
            Due.is("empty", x.undo(), NONE);
            Due.is("limit", x.room(0, 0), 10);
        }
    }

    private static void theFifthDropsTheOldest() {
        for (int acts = 5; acts <= 9; acts++) {
            VotedLabels x = new VotedLabels();
            for (int i = 1; i <= acts; i++) {
                x.setLimit(0, i);
            }
            Due.is("states", x.count(10), 4);
            for (int left = 3; left >= 0; left--) {
                Due.is("undo", x.undo(), left);
                Due.is("limit", x.room(0, 0), acts - 4 + left);
            }
            Due.is("the oldest are dropped", x.undo(), NONE);
            Due.is("limit", x.room(0, 0), acts - 4);
        }
    }

    private static void allAreUndoneAndRecordedAnew() {
        VotedLabels x = new VotedLabels();
        for (int round = 0; round < 7; round++) {
            x.setLimit(0, 1 + round);
            x.setLimit(1, 1 + round);
            x.setLimit(2, 1 + round);
            Due.is("states", x.count(10), Math.min(4, 3 + round));
            Due.is("undo", x.undo(), round == 0 ? 2 : 3);
            Due.is("undo", x.undo(), round == 0 ? 1 : 2);
            Due.is("limit that stays", x.room(0, 0), 1 + round);
            Due.is("limit undone", x.room(1, 0), 10);
            Due.is("limit undone", x.room(2, 0), 10);
            x.ask(3, 1, round % 2 == 0);
        }
    }

    private static List<Act> acts() {
        List<Act> acts = new ArrayList<>();
        acts.add(new Act("setLimit", x -> x.setLimit(1, 2)));
        acts.add(new Act("ask", x -> x.ask(0, 1, true)));
        acts.add(new Act("ask no more", x -> x.ask(1, 2, false)));
        acts.add(new Act("bring", x -> x.bring(5, 0)));
        acts.add(new Act("label", x -> x.label(0, 0)));
        acts.add(new Act("label where none is", x -> x.label(7, 0)));
        acts.add(new Act("takeDown", x -> x.takeDown(5, 2)));
        acts.add(new Act("setNeeded", x -> x.setNeeded(9)));
        acts.add(new Act("rewrite", x -> x.rewrite(8, 1, 0)));
        acts.add(new Act("rewrite in the place of one", x -> x.rewrite(2, 0, 0)));
        acts.add(new Act("vote", x -> x.vote(5, 2, true)));
        acts.add(new Act("vote in the place of one", x -> x.vote(6, 1, true)));
        acts.add(new Act("vote taken back", x -> x.vote(3, 1, false)));
        acts.add(new Act("endWeek", VotedLabels::endWeek));
        acts.add(new Act("restore", VotedLabels::restore));
        return acts;
    }

    private static void eachActRecordsTheStateBeforeIt() {
        for (Act act : acts()) {
            VotedLabels x = Galleries.rich("x y");
            x.undo();
            Due.is("states ahead of " + act.name, x.count(10), 3);
            Due.isTrue(act.name + " is done", act.call.applyAsInt(x) >= 0);
            Due.is("states behind " + act.name, x.count(10), 4);
            Told.alike("undone " + act.name, () -> undone(act), HistoryEdgesTest::oneUndone);
            Told.alike("undone twice " + act.name, () -> undoneOnceMore(undone(act)),
                    () -> undoneOnceMore(oneUndone()));
        }
    }

    private static VotedLabels oneUndone() {
        return undoneOnceMore(Galleries.rich("x y"));
    }

    private static VotedLabels undone(Act act) {
        VotedLabels x = oneUndone();
        act.call.applyAsInt(x);
        return undoneOnceMore(x);
    }

    private static VotedLabels undoneOnceMore(VotedLabels x) {
        x.undo();
        return x;
    }

    private static void actsThatAnswerZeroAreRecorded() {
        VotedLabels x = new VotedLabels();
        Due.text(x, "a");
        Due.is("setLimit", x.setLimit(0, 9), 0);
        Due.is("states", x.count(10), 1);
        Due.is("bring", x.bring(0, 1), 0);
        Due.is("states", x.count(10), 2);
        Due.is("ask", x.ask(0, 0, false), 0);
        Due.is("states", x.count(10), 3);
        Due.is("rewrite", x.rewrite(0, 0, 0), 0);
        Due.is("states", x.count(10), 4);
        x.undo();
        Due.is("rewrite undone", x.count(1), 0);
        x.rewrite(0, 0, 0);
        x.vote(1, 0, true);
        Due.is("vote", x.vote(1, 0, false), 0);
        x.undo();
        Due.is("vote undone", x.count(3), 1);
        Due.is("endWeek", x.endWeek(), 0);
        Due.is("states", x.count(10), 4);
        x.undo();
        Due.is("week undone", x.count(4), 0);
        VotedLabels y = new VotedLabels();
        y.keep();
        Due.is("restore", y.restore(), 0);
        Due.is("states", y.count(10), 1);
    }

    private static void othersAreNoActs() {
        VotedLabels x = Galleries.rich("x y");
        Due.is("undone", x.undo(), 3);
        x.type('z');
        Due.is("type", x.count(10), 3);
        x.clearText();
        Due.is("clearText", x.count(10), 3);
        x.keep();
        Due.is("keep", x.count(10), 3);
        Due.is("a rewrite is told", x.rewriteOf(1, 6) >= 0 ? 1 : 0, 1);
        x.labelOf(0, 0, 0);
        x.letter(0, 0, 0);
        x.rewriteOf(1, 7);
        x.ranked(0, 0, 0);
        x.room(0, 4);
        x.visitor(0, 3);
        x.type('q');
        x.labelsWith(0);
        Due.is("what is told", x.count(10), 3);
        Due.is("undone next", x.undo(), 2);
    }

    private static void undoIsNoActItself() {
        VotedLabels x = new VotedLabels();
        x.setNeeded(5);
        x.setNeeded(6);
        Due.is("undo", x.undo(), 1);
        Due.is("undo goes on back", x.undo(), 0);
        Due.is("needed", x.count(5), 2);
        x.setNeeded(7);
        Due.is("an act behind it", x.count(10), 1);
        x.undo();
        Due.is("needed", x.count(5), 2);
    }

    private static void thereIsNoSnapshotAtFirst() {
        VotedLabels x = new VotedLabels();
        Due.is("restore", x.restore(), NONE);
        x.setNeeded(3);
        Due.is("restore still", x.restore(), NONE);
        Due.is("states", x.count(10), 1);
        Due.is("needed", x.count(5), 3);
    }

    private static void theSnapshotOfNothing() {
        VotedLabels x = new VotedLabels();
        Due.is("no labels", x.keep(), 0);
        Due.text(x, "a");
        x.label(0, 0);
        Due.is("no labels again", x.restore(), 0);
        Due.is("labels", x.count(0), 0);
        Due.is("the states", x.count(10), 2);
    }

    private static void theSnapshotIsReplaced() {
        VotedLabels x = new VotedLabels();
        Due.text(x, "a");
        x.keep();
        x.label(0, 0);
        Due.is("one label", x.keep(), 1);
        x.label(1, 0);
        Due.is("two labels", x.keep(), 2);
        x.label(2, 0);
        Due.is("the latest", x.restore(), 2);
        x.takeDown(1, 0);
        x.takeDown(0, 0);
        Due.is("less labels", x.keep(), 0);
        x.label(3, 0);
        Due.is("the latest", x.restore(), 0);
    }

    private static void theSnapshotStays() {
        VotedLabels x = new VotedLabels();
        Due.text(x, "a");
        x.label(0, 0);
        x.keep();
        for (int i = 1; i < 6; i++) {
            x.takeDown(0, 0);
            x.setNeeded(3 + i);
            Due.is("restored", x.restore(), 1);
            Due.is("needed", x.count(5), 2);
            Due.shows(x, 0, 0, "a");
        }
    }

    private static void restoreRecordsEvenIfNothingChanges() {
        VotedLabels x = new VotedLabels();
        x.setNeeded(3);
        x.keep();
        Due.is("restored", x.restore(), 0);
        Due.is("states", x.count(10), 2);
        Due.is("restored", x.restore(), 0);
        Due.is("states", x.count(10), 3);
        Due.is("undo", x.undo(), 2);
        Due.is("undo", x.undo(), 1);
        Due.is("needed", x.count(5), 3);
        Due.is("undo", x.undo(), 0);
        Due.is("needed", x.count(5), 2);
    }

    private static void restoreDropsTheOldestToo() {
        VotedLabels x = new VotedLabels();
        x.keep();
        for (int limit = 1; limit <= 4; limit++) {
            x.setLimit(0, limit);
        }
        x.restore();
        Due.is("states", x.count(10), 4);
        for (int limit = 4; limit >= 1; limit--) {
            Due.is("undo", x.undo(), limit - 1);
            Due.is("limit", x.room(0, 0), limit);
        }
        Due.is("the oldest is dropped", x.undo(), NONE);
    }

    private static void theSnapshotIsAllOfTheState() {
        Told.alike("restored at once", () -> restoredWithoutHistory(false), () -> restoredWithoutHistory(true));
    }

    /** Restored, with other acts behind the snapshot or without, and four states behind it. */
    private static VotedLabels restoredWithoutHistory(boolean withActs) {
        VotedLabels x = Galleries.rich("x y");
        x.keep();
        if (withActs) {
            acts().forEach(act -> {
                if (!act.name.equals("restore")) {
                    act.call.applyAsInt(x);
                }
            });
        }
        x.restore();
        return x;
    }

    /** Undoes an act, does it again, restores what was kept ahead of it, and undoes that. */
    private static void isOfTheState(String what, VotedLabels x, ToIntFunction<VotedLabels> act,
            ToIntFunction<VotedLabels> told) {
        x.keep();
        int before = told.applyAsInt(x);
        act.applyAsInt(x);
        int behind = told.applyAsInt(x);
        Due.isTrue(what + " is another by the act", before != behind);
        x.undo();
        Due.is(what + ", undone", told.applyAsInt(x), before);
        act.applyAsInt(x);
        Due.is(what + ", done again", told.applyAsInt(x), behind);
        x.restore();
        Due.is(what + ", restored", told.applyAsInt(x), before);
        x.undo();
        Due.is(what + ", the restore undone", told.applyAsInt(x), behind);
    }

    private static void eachRoomIsOfTheState() {
        for (int i = 0; i < 4; i++) {
            int room = i;
            isOfTheState("the limit of " + room, new VotedLabels(), x -> x.setLimit(room, 7), x -> x.room(room, 0));
            isOfTheState("the tongue 0 of " + room, new VotedLabels(), x -> x.ask(room, 0, false),
                    x -> x.room(room, 2));
            isOfTheState("the tongue 1 of " + room, new VotedLabels(), x -> x.ask(room, 1, true),
                    x -> x.room(room, 2));
            isOfTheState("the tongue 2 of " + room, new VotedLabels(), x -> x.ask(room, 2, true),
                    x -> x.room(room, 2));
        }
    }

    private static void eachWorkIsOfTheState() {
        for (int i = 0; i < 8; i++) {
            int work = i;
            for (int away = 1; away < 4; away++) {
                int room = (work + away) % 4;
                isOfTheState("the room of " + work, new VotedLabels(), x -> x.bring(work, room),
                        x -> x.room(room, 1));
            }
        }
    }

    private static void eachLabelIsOfTheState() {
        for (int i = 0; i < 24; i++) {
            int work = i / 3;
            int tongue = i % 3;
            String at = " of " + work + ", " + tongue;
            VotedLabels x = new VotedLabels();
            Due.text(x, "ab c");
            isOfTheState("the label" + at, x, y -> y.label(work, tongue), y -> y.labelOf(work, tongue, 0));
            isOfTheState("its cuts" + at, x, y -> y.setLimit(work % 4, 1), y -> y.labelOf(work, tongue, 4));
            Due.text(x, "az");
            isOfTheState("its letters" + at, x, y -> y.label(work, tongue), y -> y.letter(work, tongue, 1));
            isOfTheState("the label taken down" + at, x, y -> y.takeDown(work, tongue),
                    y -> y.labelOf(work, tongue, 1));
        }
    }

    private static void eachVisitorIsOfTheState() {
        for (int i = 0; i < 10; i++) {
            int visitor = i;
            for (int what = 0; what < 4; what++) {
                int asked = what;
                VotedLabels x = new VotedLabels();
                Due.text(x, "a");
                x.setNeeded(1);
                x.rewrite((visitor + 2) % 10, 1, 0);
                x.rewrite(visitor, 0, 0);
                x.vote((visitor + 1) % 10, 1, true);
                if (what == 2) {
                    isOfTheState("the votes of " + visitor, x, y -> y.vote(visitor, 0, true), y -> y.visitor(visitor, 2));
                } else {
                    isOfTheState("visitor(" + visitor + ", " + what + ")", x, VotedLabels::endWeek,
                            y -> y.visitor(visitor, asked));
                }
            }
        }
    }

    private static void eachRewriteIsOfTheState() {
        for (int i = 0; i < 16; i++) {
            int number = i;
            VotedLabels x = new VotedLabels();
            Due.text(x, "q");
            for (int other = 0; other < 16; other++) {
                x.rewrite(other % 10, other % 8, other / 8);
            }
            Due.text(x, "p");
            isOfTheState("the votes for " + number, x, y -> y.vote((number + 1) % 10, number, true),
                    y -> y.rewriteOf(number, 4));
            isOfTheState("the age of " + number, x, VotedLabels::endWeek, y -> y.rewriteOf(number, 5));
            isOfTheState("how far is " + number, x, y -> y.label(number % 8, number / 8),
                    y -> y.rewriteOf(number, 6));
            isOfTheState("whether it becomes the label: " + number, x, y -> y.setNeeded(1),
                    y -> y.rewriteOf(number, 7));
            Due.text(x, "p q r");
            isOfTheState("that it is there: " + number, x, y -> y.rewrite(number % 10, number % 8, number / 8),
                    y -> y.rewriteOf(number, 3));
        }
    }

    private static void theTextIsNoState() {
        VotedLabels x = new VotedLabels();
        x.keep();
        x.setNeeded(3);
        Due.text(x, "abc");
        x.undo();
        Due.is("undo lets the text stay", x.count(11), 3);
        x.restore();
        Due.is("restore lets the text stay", x.count(11), 3);
        x.clearText();
        x.undo();
        Due.is("an empty text, too", x.count(11), 0);
    }

    private static void theHistoryIsNoState() {
        VotedLabels x = new VotedLabels();
        x.setNeeded(3);
        x.setNeeded(4);
        x.setNeeded(5);
        x.keep();
        x.undo();
        x.undo();
        Due.is("states", x.count(10), 1);
        x.restore();
        Due.is("restore brings no states back", x.count(10), 2);
        Due.is("needed", x.count(5), 5);
        x.undo();
        Due.is("needed", x.count(5), 3);
    }
}
