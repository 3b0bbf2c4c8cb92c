import java.util.ArrayList;
import java.util.List;
import java.util.function.Supplier;
import java.util.function.ToIntFunction;

/**
 * All that an object tells without being changed. Each object is asked few enough questions to stay
 * under the 512 calls that the document promises, so the object is made anew for each part of them.
 */
final class Told {
    private static final int QUESTIONS_AT_ONCE = 200;
    private static final int LETTERS = 24;
    private static final int LATE_REWRITE = 196;

    private record Question(String name, ToIntFunction<VotedLabels> answer) {
    }

    private static final List<Question> QUESTIONS = questions();

    private Told() {
    }

    /** Compares the answers of two objects, which are made anew as often as is needed. */
    static void alike(String what, Supplier<VotedLabels> one, Supplier<VotedLabels> other) {
        for (int from = 0; from < QUESTIONS.size(); from += QUESTIONS_AT_ONCE) {
            VotedLabels got = one.get();
            VotedLabels want = other.get();
            int end = Math.min(from + QUESTIONS_AT_ONCE, QUESTIONS.size());
            for (Question question : QUESTIONS.subList(from, end)) {
                Due.is(what + ": " + question.name, question.answer.applyAsInt(got),
                        question.answer.applyAsInt(want));
            }
        }
    }

    private static List<Question> questions() {
        List<Question> all = new ArrayList<>();
        for (int what = 0; what < 12; what++) {
            int asked = what;
            all.add(new Question("count(" + what + ")", x -> x.count(asked)));
        }
        for (int work = 0; work < 8; work++) {
            for (int tongue = 0; tongue < 3; tongue++) {
                addOfPlace(all, work, tongue);
            }
        }
        for (int number = 0; number < 20; number++) {
            addOfRewrite(all, number);
        }
        for (int number = LATE_REWRITE; number < 201; number++) {
            addOfRewrite(all, number);
        }
        addOfRoomsAndVisitors(all);
        for (int tongue = 0; tongue < 3; tongue++) {
            int asked = tongue;
            all.add(new Question("labelsWith(" + tongue + ")", x -> x.labelsWith(asked)));
        }
        return all;
    }

    private static void addOfPlace(List<Question> all, int work, int tongue) {
        String at = "(" + work + ", " + tongue + ", ";
        for (int i = 0; i < 5; i++) {
            int what = i;
            all.add(new Question("labelOf" + at + i + ")", x -> x.labelOf(work, tongue, what)));
        }
        for (int i = 0; i < 11; i++) {
            int rank = i;
            all.add(new Question("ranked" + at + i + ")", x -> x.ranked(work, tongue, rank)));
        }
        for (int i = 0; i < LETTERS; i++) {
            int index = i;
            all.add(new Question("letter" + at + i + ")", x -> x.letter(work, tongue, index)));
        }
    }

    private static void addOfRewrite(List<Question> all, int number) {
        for (int i = 0; i < 8; i++) {
            int what = i;
            all.add(new Question("rewriteOf(" + number + ", " + i + ")", x -> x.rewriteOf(number, what)));
        }
    }

    private static void addOfRoomsAndVisitors(List<Question> all) {
        for (int room = 0; room < 4; room++) {
            for (int i = 0; i < 7; i++) {
                int asked = room;
                int what = i;
                all.add(new Question("room(" + room + ", " + i + ")", x -> x.room(asked, what)));
            }
        }
        for (int visitor = 0; visitor < 10; visitor++) {
            for (int i = 0; i < 4; i++) {
                int asked = visitor;
                int what = i;
                all.add(new Question("visitor(" + visitor + ", " + i + ")", x -> x.visitor(asked, what)));
            }
        }
    }
}
