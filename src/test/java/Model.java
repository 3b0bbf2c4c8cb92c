import java.util.ArrayDeque;
import java.util.ArrayList;
import java.util.Arrays;
import java.util.Collections;
import java.util.Comparator;
import java.util.HashMap;
import java.util.HashSet;
import java.util.List;
import java.util.Map;
import java.util.TreeMap;

/**
 * The document once more, written another way: lists of words, votes in a map, whole copies as
 * states. ModelTest holds the class against it.
 */
final class Model {
    private static final int UNKNOWN = -1;
    private static final int BAD_VALUE = -2;
    private static final int FULL = -3;
    private static final int NOT_POSSIBLE = -4;
    private static final int NONE = -5;
    private static final int TOO_LONG = -6;

    private record Place(int work, int tongue) {
    }

    private record Ballot(int visitor, Place place) {
    }

    private record Label(List<String> words, int visitor, int week, int cuts) {
    }

    private record Rewrite(int number, Place place, int visitor, List<String> words, int age) {
    }

    private static final class State {
        int[] limit = {10, 10, 10, 10};
        boolean[][] asks = {{true, false, false}, {true, false, false}, {true, false, false}, {true, false, false}};
        int[] roomOf = {0, 1, 2, 3, 0, 1, 2, 3};
        int[] accepted = new int[10];
        Map<Place, Label> labels = new HashMap<>();
        TreeMap<Integer, Rewrite> rewrites = new TreeMap<>();
        Map<Ballot, Integer> votes = new HashMap<>();
        int needed = 2;
        int weeks;
        int given;
        int rewritten;
        int fallen;
        int cut;

        State copy() {
            State copy = new State();
            copy.limit = limit.clone();
            for (int room = 0; room < 4; room++) {
                copy.asks[room] = asks[room].clone();
            }
            copy.roomOf = roomOf.clone();
            copy.accepted = accepted.clone();
            copy.labels = new HashMap<>(labels);
            copy.rewrites = new TreeMap<>(rewrites);
            copy.votes = new HashMap<>(votes);
            copy.needed = needed;
            copy.weeks = weeks;
            copy.given = given;
            copy.rewritten = rewritten;
            copy.fallen = fallen;
            copy.cut = cut;
            return copy;
        }

        int limitAt(Place place) {
            return limit[roomOf[place.work]];
        }

        int votesFor(int number) {
            return Collections.frequency(votes.values(), number);
        }

        void drop(int number) {
            rewrites.remove(number);
            votes.values().removeIf(n -> n == number);
        }
    }

    private String text = "";
    private State now = new State();
    private final ArrayDeque<State> history = new ArrayDeque<>();
    private State snapshot;

    private static boolean in(int value, int end) {
        return 0 <= value && value < end;
    }

    private void record() {
        history.addLast(now.copy());
        if (history.size() > 4) {
            history.removeFirst();
        }
    }

    private int faultOrMinusOne() {
        for (int i = 0; i < text.length(); i++) {
            if (!text.substring(0, i + 1).matches("[a-z]+( [a-z]+)* ?")) {
                return i;
            }
        }
        return text.matches("[a-z]+( [a-z]+)*") ? -1 : text.length();
    }

    private List<String> words() {
        return List.of(text.split(" "));
    }

    private int cutAll() {
        int cut = 0;
        for (Map.Entry<Place, Label> entry : now.labels.entrySet()) {
            Label label = entry.getValue();
            int limit = now.limitAt(entry.getKey());
            if (label.words.size() > limit) {
                List<String> kept = List.copyOf(label.words.subList(0, limit));
                entry.setValue(new Label(kept, label.visitor, label.week, label.cuts + 1));
                cut++;
            }
        }
        now.cut += cut;
        return cut;
    }

    int setLimit(int room, int limit) {
        if (!in(room, 4)) {
            return UNKNOWN;
        }
        if (!in(limit - 1, 15)) {
            return BAD_VALUE;
        }
        if (now.limit[room] == limit) {
            return NONE;
        }
        record();
        now.limit[room] = limit;
        return cutAll();
    }

    int ask(int room, int tongue, boolean asks) {
        if (!in(room, 4) || !in(tongue, 3)) {
            return UNKNOWN;
        }
        if (now.asks[room][tongue] == asks) {
            return NONE;
        }
        record();
        now.asks[room][tongue] = asks;
        int all = 0;
        for (boolean one : now.asks[room]) {
            all += one ? 1 : 0;
        }
        return all;
    }

    int bring(int work, int room) {
        if (!in(work, 8) || !in(room, 4)) {
            return UNKNOWN;
        }
        if (now.roomOf[work] == room) {
            return NONE;
        }
        record();
        now.roomOf[work] = room;
        return cutAll();
    }

    int label(int work, int tongue) {
        if (!in(work, 8) || !in(tongue, 3)) {
            return UNKNOWN;
        }
        int fault = faultOrMinusOne();
        if (fault >= 0) {
            return -100 - fault;
        }
        Place place = new Place(work, tongue);
        if (words().size() > now.limitAt(place)) {
            return TOO_LONG;
        }
        if (now.labels.containsKey(place) && now.labels.get(place).words.equals(words())) {
            return NONE;
        }
        record();
        now.labels.put(place, new Label(words(), NONE, now.weeks, 0));
        return words().size();
    }

    int takeDown(int work, int tongue) {
        if (!in(work, 8) || !in(tongue, 3)) {
            return UNKNOWN;
        }
        Place place = new Place(work, tongue);
        if (!now.labels.containsKey(place)) {
            return NONE;
        }
        record();
        return now.labels.remove(place).words.size();
    }

    int setNeeded(int votes) {
        if (!in(votes - 1, 9)) {
            return BAD_VALUE;
        }
        if (votes == now.needed) {
            return NONE;
        }
        record();
        int previous = now.needed;
        now.needed = votes;
        return previous;
    }

    int rewrite(int visitor, int work, int tongue) {
        if (!in(visitor, 10) || !in(work, 8) || !in(tongue, 3)) {
            return UNKNOWN;
        }
        int fault = faultOrMinusOne();
        if (fault >= 0) {
            return -100 - fault;
        }
        Place place = new Place(work, tongue);
        if (words().size() > now.limitAt(place)) {
            return TOO_LONG;
        }
        if (now.labels.containsKey(place) && now.labels.get(place).words.equals(words())) {
            return NOT_POSSIBLE;
        }
        Rewrite earlier = null;
        for (Rewrite one : now.rewrites.values()) {
            if (one.visitor == visitor && one.place.equals(place)) {
                earlier = one;
            }
        }
        if ((now.rewrites.size() == 16 && earlier == null) || now.given == 200) {
            return FULL;
        }
        record();
        if (earlier != null) {
            now.drop(earlier.number);
        }
        now.rewrites.put(now.given, new Rewrite(now.given, place, visitor, words(), 0));
        return now.given++;
    }

    int vote(int visitor, int rewrite, boolean votes) {
        if (!in(visitor, 10) || !now.rewrites.containsKey(rewrite)) {
            return UNKNOWN;
        }
        Rewrite chosen = now.rewrites.get(rewrite);
        if (chosen.visitor == visitor) {
            return NOT_POSSIBLE;
        }
        Ballot ballot = new Ballot(visitor, chosen.place);
        boolean already = now.votes.getOrDefault(ballot, -1) == rewrite;
        if (already == votes) {
            return NONE;
        }
        record();
        if (votes) {
            now.votes.put(ballot, rewrite);
        } else {
            now.votes.remove(ballot);
        }
        return now.votesFor(rewrite);
    }

    private Rewrite winner(Place place) {
        List<Rewrite> able = new ArrayList<>();
        for (Rewrite one : now.rewrites.values()) {
            if (one.place.equals(place) && now.votesFor(one.number) >= now.needed
                    && one.words.size() <= now.limitAt(place)) {
                able.add(one);
            }
        }
        able.sort(Comparator.<Rewrite>comparingInt(r -> -now.votesFor(r.number))
                .thenComparingInt(r -> r.words.size()).thenComparingInt(r -> r.number));
        return able.isEmpty() ? null : able.get(0);
    }

    int endWeek() {
        record();
        int found = 0;
        for (int work = 0; work < 8; work++) {
            for (int tongue = 0; tongue < 3; tongue++) {
                Place place = new Place(work, tongue);
                Rewrite best = winner(place);
                if (best != null) {
                    now.labels.put(place, new Label(best.words, best.visitor, now.weeks, 0));
                    now.accepted[best.visitor]++;
                    now.drop(best.number);
                    found++;
                }
            }
        }
        for (Rewrite one : new ArrayList<>(now.rewrites.values())) {
            if (one.age == 2) {
                now.drop(one.number);
                now.fallen++;
            } else {
                now.rewrites.put(one.number,
                        new Rewrite(one.number, one.place, one.visitor, one.words, one.age + 1));
            }
        }
        now.rewritten += found;
        now.weeks++;
        return found;
    }

    int type(char character) {
        if (text.length() == 60) {
            return FULL;
        }
        text += character;
        return text.length();
    }

    int clearText() {
        int had = text.length();
        text = "";
        return had;
    }

    int undo() {
        if (history.isEmpty()) {
            return NONE;
        }
        now = history.removeLast();
        return history.size();
    }

    int keep() {
        snapshot = now.copy();
        return now.labels.size();
    }

    int restore() {
        if (snapshot == null) {
            return NONE;
        }
        record();
        now = snapshot.copy();
        return now.labels.size();
    }

    int labelOf(int work, int tongue, int what) {
        if (!in(work, 8) || !in(tongue, 3)) {
            return UNKNOWN;
        }
        if (!in(what, 5)) {
            return BAD_VALUE;
        }
        Label label = now.labels.get(new Place(work, tongue));
        if (label == null) {
            return NONE;
        }
        int[] told = {label.words.size(), String.join(" ", label.words).length(), label.visitor, label.week,
            label.cuts};
        return told[what];
    }

    int letter(int work, int tongue, int index) {
        if (!in(work, 8) || !in(tongue, 3)) {
            return UNKNOWN;
        }
        if (index < 0) {
            return BAD_VALUE;
        }
        Label label = now.labels.get(new Place(work, tongue));
        String shown = label == null ? "" : String.join(" ", label.words);
        return index < shown.length() ? shown.charAt(index) : NONE;
    }

    private static int far(List<String> one, List<String> other) {
        int[][] far = new int[one.size() + 1][other.size() + 1];
        for (int i = 0; i <= one.size(); i++) {
            for (int j = 0; j <= other.size(); j++) {
                if (i == 0 || j == 0) {
                    far[i][j] = i + j;
                } else if (one.get(i - 1).equals(other.get(j - 1))) {
                    far[i][j] = far[i - 1][j - 1];
                } else {
                    far[i][j] = 1 + Math.min(far[i - 1][j], far[i][j - 1]);
                }
            }
        }
        return far[one.size()][other.size()];
    }

    int rewriteOf(int rewrite, int what) {
        Rewrite told = now.rewrites.get(rewrite);
        if (told == null) {
            return UNKNOWN;
        }
        if (!in(what, 8)) {
            return BAD_VALUE;
        }
        Label label = now.labels.get(told.place);
        int far = far(told.words, label == null ? List.of() : label.words);
        int[] all = {told.place.work, told.place.tongue, told.visitor, told.words.size(), now.votesFor(rewrite),
            told.age, far, told.equals(winner(told.place)) ? 1 : 0};
        return all[what];
    }

    int ranked(int work, int tongue, int rank) {
        if (!in(work, 8) || !in(tongue, 3)) {
            return UNKNOWN;
        }
        if (rank < 0) {
            return BAD_VALUE;
        }
        List<Rewrite> all = new ArrayList<>(now.rewrites.values());
        all.removeIf(r -> !r.place.equals(new Place(work, tongue)));
        all.sort(Comparator.<Rewrite>comparingInt(r -> -now.votesFor(r.number)).thenComparingInt(r -> r.number));
        return rank < all.size() ? all.get(rank).number : NONE;
    }

    int room(int room, int what) {
        if (!in(room, 4)) {
            return UNKNOWN;
        }
        if (!in(what, 7)) {
            return BAD_VALUE;
        }
        int works = 0;
        int bits = 0;
        int asked = 0;
        int missing = 0;
        int others = 0;
        int longest = 0;
        for (int tongue = 0; tongue < 3; tongue++) {
            bits += now.asks[room][tongue] ? 1 << tongue : 0;
        }
        for (int work = 0; work < 8; work++) {
            if (now.roomOf[work] != room) {
                continue;
            }
            works++;
            for (int tongue = 0; tongue < 3; tongue++) {
                Label label = now.labels.get(new Place(work, tongue));
                boolean asks = now.asks[room][tongue];
                asked += asks && label != null ? 1 : 0;
                missing += asks && label == null ? 1 : 0;
                others += !asks && label != null ? 1 : 0;
                longest = Math.max(longest, label == null ? 0 : label.words.size());
            }
        }
        int[] told = {now.limit[room], works, bits, asked, missing, others, longest};
        return told[what];
    }

    int visitor(int visitor, int what) {
        if (!in(visitor, 10)) {
            return UNKNOWN;
        }
        switch (what) {
            case 0:
                return (int) now.rewrites.values().stream().filter(r -> r.visitor == visitor).count();
            case 1:
                return now.accepted[visitor];
            case 2:
                return (int) now.votes.keySet().stream().filter(b -> b.visitor == visitor).count();
            case 3:
                return (int) now.labels.values().stream().filter(l -> l.visitor == visitor).count();
            default:
                return BAD_VALUE;
        }
    }

    int labelsWith(int tongue) {
        if (!in(tongue, 3)) {
            return UNKNOWN;
        }
        int fault = faultOrMinusOne();
        if (fault >= 0) {
            return -100 - fault;
        }
        int found = 0;
        for (Map.Entry<Place, Label> entry : now.labels.entrySet()) {
            boolean apart = Collections.disjoint(new HashSet<>(words()), entry.getValue().words);
            found += entry.getKey().tongue == tongue && !apart ? 1 : 0;
        }
        return found;
    }

    int count(int what) {
        if (!in(what, 12)) {
            return BAD_VALUE;
        }
        int missing = 0;
        for (int room = 0; room < 4; room++) {
            missing += room(room, 4);
        }
        int[] told = {now.labels.size(), now.rewrites.size(), now.given, now.votes.size(), now.weeks, now.needed,
            missing, now.rewritten, now.fallen, now.cut, history.size(), text.length()};
        return told[what];
    }

    /** What there is, for a message. */
    String shown() {
        return "text '" + text + "' limits " + Arrays.toString(now.limit) + " labels " + now.labels + " rewrites "
                + now.rewrites + " votes " + now.votes;
    }
}
