import java.util.Arrays;

/**
 * Labels of a gallery that visitors rewrite. Every row that a call needs is made in a constructor
 * and used again: no call makes an object.
 */
public final class VotedLabels {
    public static final int UNKNOWN = -1;
    public static final int BAD_VALUE = -2;
    public static final int FULL = -3;
    public static final int NOT_POSSIBLE = -4;
    public static final int NONE = -5;
    public static final int TOO_LONG = -6;

    private static final int WORKS = 8;
    private static final int ROOMS = 4;
    private static final int TONGUES = 3;
    /** A place is a work and a tongue: work * TONGUES + tongue. */
    private static final int PLACES = WORKS * TONGUES;
    private static final int VISITORS = 10;
    private static final int HIGHEST_LIMIT = 15;
    private static final int FIRST_LIMIT = 10;
    private static final int MOST_NEEDED = 9;
    private static final int FIRST_NEEDED = 2;
    private static final int MOST_REWRITES = 16;
    private static final int MOST_REWRITES_EVER = 200;
    private static final int AGE_OF_FALL = 3;
    private static final int TEXT_LENGTH = 60;
    /** A text of 60 characters has room for 30 words of one letter with a blank between two. */
    private static final int TEXT_WORDS = 30;
    private static final int HISTORY_STATES = 4;
    private static final char BLANK = ' ';
    private static final int NO_FAULT = -1;
    private static final int FAULT_BASE = -100;
    private static final int NO_ERROR = 0;

    private final Text text;
    private final Words typed;
    private final State state;
    private final History history;
    private final State snapshot;
    private boolean hasSnapshot;
    private final int[] commonRow;

    public VotedLabels() {
        text = new Text();
        typed = new Words();
        state = new State();
        history = new History();
        snapshot = new State();
        hasSnapshot = false;
        commonRow = new int[TEXT_WORDS + 1];
    }

    // ---- rooms, works, labels

    public int setLimit(int room, int limit) {
        if (!isRoom(room)) {
            return UNKNOWN;
        }
        if (limit < 1 || limit > HIGHEST_LIMIT) {
            return BAD_VALUE;
        }
        if (state.limits[room] == limit) {
            return NONE;
        }
        history.push(state);
        return state.changeLimit(room, limit);
    }

    public int ask(int room, int tongue, boolean asks) {
        if (!isRoom(room) || !isTongue(tongue)) {
            return UNKNOWN;
        }
        if (state.asksFor(room, tongue) == asks) {
            return NONE;
        }
        history.push(state);
        state.asked[room] ^= 1 << tongue;
        return Integer.bitCount(state.asked[room]);
    }

    public int bring(int work, int room) {
        if (!isWork(work) || !isRoom(room)) {
            return UNKNOWN;
        }
        if (state.roomOf[work] == room) {
            return NONE;
        }
        history.push(state);
        state.roomOf[work] = room;
        return state.cutLabelsOf(work);
    }

    public int label(int work, int tongue) {
        if (!isWork(work) || !isTongue(tongue)) {
            return UNKNOWN;
        }
        int error = readTextFor(work);
        if (error != NO_ERROR) {
            return error;
        }
        Label label = state.labels[placeOf(work, tongue)];
        if (label.words.isLike(typed)) {
            return NONE;
        }
        history.push(state);
        label.become(typed, NONE, state.weeks);
        return typed.size;
    }

    public int takeDown(int work, int tongue) {
        if (!isWork(work) || !isTongue(tongue)) {
            return UNKNOWN;
        }
        Label label = state.labels[placeOf(work, tongue)];
        if (!label.stands()) {
            return NONE;
        }
        history.push(state);
        int had = label.words.size;
        label.words.empty();
        return had;
    }

    public int setNeeded(int votes) {
        if (votes < 1 || votes > MOST_NEEDED) {
            return BAD_VALUE;
        }
        if (state.needed == votes) {
            return NONE;
        }
        history.push(state);
        int previous = state.needed;
        state.needed = votes;
        return previous;
    }

    // ---- rewrites, votes, weeks

    public int rewrite(int visitor, int work, int tongue) {
        if (!isVisitor(visitor) || !isWork(work) || !isTongue(tongue)) {
            return UNKNOWN;
        }
        int error = readTextFor(work);
        if (error != NO_ERROR) {
            return error;
        }
        int place = placeOf(work, tongue);
        if (state.labels[place].words.isLike(typed)) {
            return NOT_POSSIBLE;
        }
        if (!state.rewrites.hasRoomFor(visitor, place)) {
            return FULL;
        }
        history.push(state);
        return state.rewrites.handIn(visitor, place, typed);
    }

    public int vote(int visitor, int rewrite, boolean votes) {
        Rewrite chosen = state.rewrites.withNumber(rewrite);
        if (!isVisitor(visitor) || chosen == null) {
            return UNKNOWN;
        }
        if (chosen.visitor == visitor) {
            return NOT_POSSIBLE;
        }
        if (chosen.hasVoteOf(visitor) == votes) {
            return NONE;
        }
        history.push(state);
        state.rewrites.takeVoteBack(visitor, chosen.place);
        if (votes) {
            chosen.voters |= 1 << visitor;
        }
        return chosen.votes();
    }

    public int endWeek() {
        history.push(state);
        return state.passWeek();
    }

    // ---- texts

    public int type(char character) {
        return text.add(character) ? text.length : FULL;
    }

    public int clearText() {
        int had = text.length;
        text.length = 0;
        return had;
    }

    // ---- history

    public int undo() {
        if (history.size == 0) {
            return NONE;
        }
        history.popInto(state);
        return history.size;
    }

    public int keep() {
        snapshot.copyFrom(state);
        hasSnapshot = true;
        return state.allLabels();
    }

    public int restore() {
        if (!hasSnapshot) {
            return NONE;
        }
        history.push(state);
        state.copyFrom(snapshot);
        return state.allLabels();
    }

    // ---- what is told

    public int labelOf(int work, int tongue, int what) {
        if (!isWork(work) || !isTongue(tongue)) {
            return UNKNOWN;
        }
        if (what < 0 || what > 4) {
            return BAD_VALUE;
        }
        Label label = state.labels[placeOf(work, tongue)];
        return label.stands() ? label.told(what) : NONE;
    }

    public int letter(int work, int tongue, int index) {
        if (!isWork(work) || !isTongue(tongue)) {
            return UNKNOWN;
        }
        if (index < 0) {
            return BAD_VALUE;
        }
        Words words = state.labels[placeOf(work, tongue)].words;
        return index < words.length ? words.letters[index] : NONE;
    }

    public int rewriteOf(int rewrite, int what) {
        Rewrite told = state.rewrites.withNumber(rewrite);
        if (told == null) {
            return UNKNOWN;
        }
        switch (what) {
            case 0:
                return told.place / TONGUES;
            case 1:
                return told.place % TONGUES;
            case 2:
                return told.visitor;
            case 3:
                return told.words.size;
            case 4:
                return told.votes();
            case 5:
                return told.age;
            case 6:
                return told.words.distanceTo(state.labels[told.place].words, commonRow);
            case 7:
                return state.bestRewriteFor(told.place) == told ? 1 : 0;
            default:
                return BAD_VALUE;
        }
    }

    public int ranked(int work, int tongue, int rank) {
        if (!isWork(work) || !isTongue(tongue)) {
            return UNKNOWN;
        }
        if (rank < 0) {
            return BAD_VALUE;
        }
        Rewrite found = state.rewrites.atRank(placeOf(work, tongue), rank);
        return found == null ? NONE : found.number;
    }

    public int room(int room, int what) {
        if (!isRoom(room)) {
            return UNKNOWN;
        }
        switch (what) {
            case 0:
                return state.limits[room];
            case 1:
                return state.worksIn(room);
            case 2:
                return state.asked[room];
            case 3:
                return state.labelsIn(room, true);
            case 4:
                return state.missingIn(room);
            case 5:
                return state.labelsIn(room, false);
            case 6:
                return state.longestIn(room);
            default:
                return BAD_VALUE;
        }
    }

    public int visitor(int visitor, int what) {
        if (!isVisitor(visitor)) {
            return UNKNOWN;
        }
        switch (what) {
            case 0:
                return state.rewrites.handedInBy(visitor);
            case 1:
                return state.accepted[visitor];
            case 2:
                return state.rewrites.votesOf(visitor);
            case 3:
                return state.labelsBy(visitor);
            default:
                return BAD_VALUE;
        }
    }

    public int labelsWith(int tongue) {
        if (!isTongue(tongue)) {
            return UNKNOWN;
        }
        int error = readText();
        return error == NO_ERROR ? state.labelsSharing(tongue, typed) : error;
    }

    public int count(int what) {
        switch (what) {
            case 0:
                return state.allLabels();
            case 1:
                return state.rewrites.size;
            case 2:
                return state.rewrites.soFar;
            case 3:
                return state.rewrites.allVotes();
            case 4:
                return state.weeks;
            case 5:
                return state.needed;
            case 6:
                return state.allMissing();
            case 7:
                return state.rewritten;
            case 8:
                return state.fallen;
            case 9:
                return state.cut;
            case 10:
                return history.size;
            case 11:
                return text.length;
            default:
                return BAD_VALUE;
        }
    }

    // ---- arguments and the text

    private static boolean isWork(int work) {
        return work >= 0 && work < WORKS;
    }

    private static boolean isRoom(int room) {
        return room >= 0 && room < ROOMS;
    }

    private static boolean isTongue(int tongue) {
        return tongue >= 0 && tongue < TONGUES;
    }

    private static boolean isVisitor(int visitor) {
        return visitor >= 0 && visitor < VISITORS;
    }

    private static int placeOf(int work, int tongue) {
        return work * TONGUES + tongue;
    }

    /** Reads the text's words into typed, if it has no fault; answers NO_ERROR or what is wrong. */
    private int readText() {
        int fault = text.fault();
        if (fault != NO_FAULT) {
            return FAULT_BASE - fault;
        }
        typed.readFrom(text);
        return NO_ERROR;
    }

    /** Like readText, but the text must not be too long for a label of the work either. */
    private int readTextFor(int work) {
        int error = readText();
        if (error != NO_ERROR) {
            return error;
        }
        return typed.size > state.limitOf(work) ? TOO_LONG : NO_ERROR;
    }

    /** What is typed: any characters. */
    private static final class Text {
        final char[] characters = new char[TEXT_LENGTH];
        int length;

        boolean add(char character) {
            if (length >= TEXT_LENGTH) {
                return false;
            }
            characters[length] = character;
            length++;
            return true;
        }

        int fault() {
            boolean inWord = false;
            for (int i = 0; i < length; i++) {
                char character = characters[i];
                boolean isLetter = character >= 'a' && character <= 'z';
                boolean isGap = character == BLANK && inWord;
                if (!isLetter && !isGap) {
                    return i;
                }
                inWord = isLetter;
            }
            return inWord ? NO_FAULT : length;
        }
    }

    /** A row of words; an empty one stands for no words at all. */
    private static final class Words {
        /** The words with one blank between two. */
        final char[] letters = new char[TEXT_LENGTH];
        int length;
        /** Where each word begins; behind the last word, where one more would begin. */
        final int[] starts = new int[TEXT_WORDS + 1];
        int size;

        void empty() {
            length = 0;
            size = 0;
        }

        /** The text must have no fault. */
        void readFrom(Text text) {
            length = text.length;
            System.arraycopy(text.characters, 0, letters, 0, length);
            size = 0;
            for (int i = 0; i < length; i++) {
                boolean begins = i == 0 || letters[i - 1] == BLANK;
                if (begins && size < TEXT_WORDS) {
                    starts[size] = i;
                    size++;
                }
            }
            starts[size] = length + 1;
        }

        void copyFrom(Words other) {
            length = other.length;
            size = other.size;
            System.arraycopy(other.letters, 0, letters, 0, length);
            System.arraycopy(other.starts, 0, starts, 0, size + 1);
        }

        /** Keeps the first words; the limit is 1 or more. */
        void cutTo(int limit) {
            if (limit < size) {
                size = limit;
                length = starts[limit] - 1;
            }
        }

        boolean isLike(Words other) {
            if (length != other.length) {
                return false;
            }
            for (int i = 0; i < length; i++) {
                if (letters[i] != other.letters[i]) {
                    return false;
                }
            }
            return true;
        }

        boolean hasSameWord(int index, Words other, int otherIndex) {
            int from = starts[index];
            int otherFrom = other.starts[otherIndex];
            int letterCount = starts[index + 1] - 1 - from;
            if (other.starts[otherIndex + 1] - 1 - otherFrom != letterCount) {
                return false;
            }
            for (int i = 0; i < letterCount; i++) {
                if (letters[from + i] != other.letters[otherFrom + i]) {
                    return false;
                }
            }
            return true;
        }

        boolean sharesWordWith(Words other) {
            for (int i = 0; i < size; i++) {
                for (int j = 0; j < other.size; j++) {
                    if (hasSameWord(i, other, j)) {
                        return true;
                    }
                }
            }
            return false;
        }

        /** Words that stay in their order need no change; all others are put in or taken out. */
        int distanceTo(Words other, int[] row) {
            return size + other.size - 2 * mostInCommon(other, row);
        }

        /** The row holds, for the words looked at so far, the most in common by the other's words. */
        private int mostInCommon(Words other, int[] row) {
            Arrays.fill(row, 0);
            for (int i = 0; i < size; i++) {
                int diagonal = 0;
                for (int j = 0; j < other.size; j++) {
                    int above = row[j + 1];
                    if (hasSameWord(i, other, j)) {
                        row[j + 1] = diagonal + 1;
                    } else {
                        row[j + 1] = Math.max(above, row[j]);
                    }
                    diagonal = above;
                }
            }
            return row[other.size];
        }
    }

    /** The label of a place; without words it does not stand. */
    private static final class Label {
        final Words words = new Words();
        int visitor = NONE;
        int week;
        int cuts;

        boolean stands() {
            return words.size > 0;
        }

        void become(Words newWords, int newVisitor, int newWeek) {
            words.copyFrom(newWords);
            visitor = newVisitor;
            week = newWeek;
            cuts = 0;
        }

        void copyFrom(Label other) {
            words.copyFrom(other.words);
            visitor = other.visitor;
            week = other.week;
            cuts = other.cuts;
        }

        boolean cutTo(int limit) {
            if (words.size <= limit) {
                return false;
            }
            words.cutTo(limit);
            cuts++;
            return true;
        }

        int told(int what) {
            switch (what) {
                case 0:
                    return words.size;
                case 1:
                    return words.length;
                case 2:
                    return visitor;
                case 3:
                    return week;
                default:
                    return cuts;
            }
        }
    }

    private static final class Rewrite {
        final Words words = new Words();
        int number;
        int place;
        int visitor;
        int age;
        /** A bit for each visitor who votes for it: so its votes go when it goes. */
        int voters;

        void become(int newNumber, int newVisitor, int newPlace, Words newWords) {
            words.copyFrom(newWords);
            number = newNumber;
            place = newPlace;
            visitor = newVisitor;
            age = 0;
            voters = 0;
        }

        void copyFrom(Rewrite other) {
            words.copyFrom(other.words);
            number = other.number;
            place = other.place;
            visitor = other.visitor;
            age = other.age;
            voters = other.voters;
        }

        boolean hasVoteOf(int visitor) {
            return (voters & (1 << visitor)) != 0;
        }

        int votes() {
            return Integer.bitCount(voters);
        }

        boolean hasMoreVotesOrLowerNumber(Rewrite other) {
            int votes = votes();
            int otherVotes = other.votes();
            return votes > otherVotes || (votes == otherVotes && number < other.number);
        }

        boolean hasMoreVotesOrFewerWords(Rewrite other) {
            int votes = votes();
            int otherVotes = other.votes();
            return votes > otherVotes || (votes == otherVotes && words.size < other.words.size);
        }
    }

    /** The rewrites that there are, by their numbers, the lowest first. */
    private static final class Rewrites {
        final Rewrite[] rows = new Rewrite[MOST_REWRITES];
        int size;
        int soFar;

        Rewrites() {
            for (int i = 0; i < rows.length; i++) {
                rows[i] = new Rewrite();
            }
        }

        void copyFrom(Rewrites other) {
            size = other.size;
            soFar = other.soFar;
            for (int i = 0; i < size; i++) {
                rows[i].copyFrom(other.rows[i]);
            }
        }

        Rewrite withNumber(int number) {
            for (int i = 0; i < size; i++) {
                if (rows[i].number == number) {
                    return rows[i];
                }
            }
            return null;
        }

        boolean hasRoomFor(int visitor, int place) {
            boolean hasRow = size < MOST_REWRITES || indexBy(visitor, place) >= 0;
            return hasRow && soFar < MOST_REWRITES_EVER;
        }

        /** There must be room for it. */
        int handIn(int visitor, int place, Words words) {
            int earlier = indexBy(visitor, place);
            if (earlier >= 0) {
                removeAt(earlier);
            }
            int number = soFar;
            if (size < MOST_REWRITES) {
                rows[size].become(number, visitor, place, words);
                size++;
                soFar++;
            }
            return number;
        }

        private int indexBy(int visitor, int place) {
            for (int i = 0; i < size; i++) {
                if (rows[i].visitor == visitor && rows[i].place == place) {
                    return i;
                }
            }
            return -1;
        }

        /** The row that is gone comes behind the others, to be used again. */
        private void removeAt(int index) {
            Rewrite gone = rows[index];
            for (int i = index + 1; i < size; i++) {
                rows[i - 1] = rows[i];
            }
            size--;
            rows[size] = gone;
        }

        void remove(Rewrite gone) {
            for (int i = 0; i < size; i++) {
                if (rows[i] == gone) {
                    removeAt(i);
                    return;
                }
            }
        }

        void takeVoteBack(int visitor, int place) {
            for (int i = 0; i < size; i++) {
                if (rows[i].place == place) {
                    rows[i].voters &= ~(1 << visitor);
                }
            }
        }

        /** The one that becomes the label at the week's end, or null. */
        Rewrite bestFor(int place, int needed, int limit) {
            Rewrite best = null;
            for (int i = 0; i < size; i++) {
                Rewrite next = rows[i];
                boolean counts = next.place == place && next.votes() >= needed
                        && next.words.size <= limit;
                // of two alike the earlier row stays: it has the lower number
                if (counts && (best == null || next.hasMoreVotesOrFewerWords(best))) {
                    best = next;
                }
            }
            return best;
        }

        Rewrite atRank(int place, int rank) {
            for (int i = 0; i < size; i++) {
                if (rows[i].place == place && aheadOf(rows[i]) == rank) {
                    return rows[i];
                }
            }
            return null;
        }

        private int aheadOf(Rewrite rewrite) {
            int ahead = 0;
            for (int i = 0; i < size; i++) {
                if (rows[i].place == rewrite.place && rows[i].hasMoreVotesOrLowerNumber(rewrite)) {
                    ahead++;
                }
            }
            return ahead;
        }

        /** Answers how many fall away by their age. */
        int growOlder() {
            int fallen = 0;
            for (int i = size - 1; i >= 0; i--) {
                rows[i].age++;
                if (rows[i].age >= AGE_OF_FALL) {
                    removeAt(i);
                    fallen++;
                }
            }
            return fallen;
        }

        int handedInBy(int visitor) {
            int found = 0;
            for (int i = 0; i < size; i++) {
                if (rows[i].visitor == visitor) {
                    found++;
                }
            }
            return found;
        }

        int votesOf(int visitor) {
            int found = 0;
            for (int i = 0; i < size; i++) {
                if (rows[i].hasVoteOf(visitor)) {
                    found++;
                }
            }
            return found;
        }

        int allVotes() {
            int found = 0;
            for (int i = 0; i < size; i++) {
                found += rows[i].votes();
            }
            return found;
        }
    }

    /** Everything that undo and the snapshot bring back. */
    private static final class State {
        final int[] limits = new int[ROOMS];
        /** For each room a bit for each tongue for which it asks. */
        final int[] asked = new int[ROOMS];
        final int[] roomOf = new int[WORKS];
        final int[] accepted = new int[VISITORS];
        final Label[] labels = new Label[PLACES];
        final Rewrites rewrites = new Rewrites();
        int needed = FIRST_NEEDED;
        int weeks;
        int rewritten;
        int fallen;
        int cut;

        State() {
            Arrays.fill(limits, FIRST_LIMIT);
            Arrays.fill(asked, 1);
            for (int work = 0; work < WORKS; work++) {
                roomOf[work] = work % ROOMS;
            }
            for (int place = 0; place < PLACES; place++) {
                labels[place] = new Label();
            }
        }

        void copyFrom(State other) {
            System.arraycopy(other.limits, 0, limits, 0, ROOMS);
            System.arraycopy(other.asked, 0, asked, 0, ROOMS);
            System.arraycopy(other.roomOf, 0, roomOf, 0, WORKS);
            System.arraycopy(other.accepted, 0, accepted, 0, VISITORS);
            for (int place = 0; place < PLACES; place++) {
                labels[place].copyFrom(other.labels[place]);
            }
            rewrites.copyFrom(other.rewrites);
            needed = other.needed;
            weeks = other.weeks;
            rewritten = other.rewritten;
            fallen = other.fallen;
            cut = other.cut;
        }

        int limitOf(int work) {
            return limits[roomOf[work]];
        }

        boolean asksFor(int room, int tongue) {
            return (asked[room] & (1 << tongue)) != 0;
        }

        /** Answers how many labels are cut. */
        int changeLimit(int room, int limit) {
            limits[room] = limit;
            int found = 0;
            for (int work = 0; work < WORKS; work++) {
                if (roomOf[work] == room) {
                    found += cutLabelsOf(work);
                }
            }
            return found;
        }

        /** Answers how many labels are cut. */
        int cutLabelsOf(int work) {
            int limit = limitOf(work);
            int found = 0;
            for (int tongue = 0; tongue < TONGUES; tongue++) {
                if (labels[placeOf(work, tongue)].cutTo(limit)) {
                    found++;
                }
            }
            cut += found;
            return found;
        }

        Rewrite bestRewriteFor(int place) {
            return rewrites.bestFor(place, needed, limitOf(place / TONGUES));
        }

        /** Answers how many labels are rewritten. */
        int passWeek() {
            int found = 0;
            for (int place = 0; place < PLACES; place++) {
                Rewrite best = bestRewriteFor(place);
                if (best != null) {
                    accept(best);
                    found++;
                }
            }
            rewritten += found;
            fallen += rewrites.growOlder();
            weeks++;
            return found;
        }

        private void accept(Rewrite best) {
            labels[best.place].become(best.words, best.visitor, weeks);
            accepted[best.visitor]++;
            rewrites.remove(best);
        }

        int allLabels() {
            int found = 0;
            for (int place = 0; place < PLACES; place++) {
                if (labels[place].stands()) {
                    found++;
                }
            }
            return found;
        }

        int labelsBy(int visitor) {
            int found = 0;
            for (int place = 0; place < PLACES; place++) {
                if (labels[place].stands() && labels[place].visitor == visitor) {
                    found++;
                }
            }
            return found;
        }

        int labelsSharing(int tongue, Words words) {
            int found = 0;
            for (int work = 0; work < WORKS; work++) {
                if (labels[placeOf(work, tongue)].words.sharesWordWith(words)) {
                    found++;
                }
            }
            return found;
        }

        int worksIn(int room) {
            int found = 0;
            for (int work = 0; work < WORKS; work++) {
                if (roomOf[work] == room) {
                    found++;
                }
            }
            return found;
        }

        /** Labels in the tongues for which the room asks, or in the other ones. */
        int labelsIn(int room, boolean askedFor) {
            int found = 0;
            for (int place = 0; place < PLACES; place++) {
                boolean inRoom = roomOf[place / TONGUES] == room;
                boolean counts = asksFor(room, place % TONGUES) == askedFor;
                if (inRoom && counts && labels[place].stands()) {
                    found++;
                }
            }
            return found;
        }

        int missingIn(int room) {
            return worksIn(room) * Integer.bitCount(asked[room]) - labelsIn(room, true);
        }

        int allMissing() {
            int found = 0;
            for (int room = 0; room < ROOMS; room++) {
                found += missingIn(room);
            }
            return found;
        }

        int longestIn(int room) {
            int longest = 0;
            for (int place = 0; place < PLACES; place++) {
                if (roomOf[place / TONGUES] == room) {
                    longest = Math.max(longest, labels[place].words.size);
                }
            }
            return longest;
        }
    }

    /** The latest states, in a ring. */
    private static final class History {
        final State[] states = new State[HISTORY_STATES];
        int size;
        /** Where the next state is put: when the ring is full, on the oldest one. */
        private int next;

        History() {
            for (int i = 0; i < states.length; i++) {
                states[i] = new State();
            }
        }

        void push(State state) {
            states[next].copyFrom(state);
            next = (next + 1) % HISTORY_STATES;
            if (size < HISTORY_STATES) {
                size++;
            }
        }

        /** The history must not be empty. */
        void popInto(State state) {
            next = (next + HISTORY_STATES - 1) % HISTORY_STATES;
            size--;
            state.copyFrom(states[next]);
        }
    }
}
