/** Holds the class against the model, over long runs of calls drawn by a plain generator of numbers. */
public final class ModelTest {
    private static final int RUNS = 1500;
    private static final int CALLS = 512;

    private static final String[] TEXTS = {"a", "b", "a b", "b a", "a b c", "c b a", "ab", "a a b", "b a b a",
        "a b c d e f", "f e d c b a", "a b c d e f g h i j k", "a b c d e f g h i j k l m n o", "a ", " a", "a  b",
        "A", "aa bb cc dd", "ab a b", "a ab b"};

    private static long seed;
    private static VotedLabels real;
    private static Model model;
    private static int run;
    private static int calls;
    private static int[] weights;

    public static void main(String[] args) {
        for (run = 0; run < RUNS && Due.allFine(); run++) {
            seed = 7919L * run + 1;
            real = new VotedLabels();
            model = new Model();
            calls = 0;
            drawWeights();
            while (calls < CALLS && Due.allFine()) {
                step(drawKind());
            }
        }
        Due.end();
    }

    private static int draw(int end) {
        seed = seed * 6364136223846793005L + 1442695040888963407L;
        return (int) ((seed >>> 33) % end);
    }

    /** Each run likes some calls more than others, so that runs come to different ends. */
    private static void drawWeights() {
        weights = new int[23];
        for (int kind = 0; kind < weights.length; kind++) {
            weights[kind] = 1 + draw(4);
        }
        weights[draw(23)] += 30;
        weights[6] += 10 * draw(4);
        weights[7] += 10 * draw(4);
        weights[8] /= 2;
        weights[9] = 1 + draw(3);
        weights[17] += 6;
    }

    private static int drawKind() {
        int all = 0;
        for (int weight : weights) {
            all += weight;
        }
        int left = draw(all);
        int kind = 0;
        while (left >= weights[kind]) {
            left -= weights[kind];
            kind++;
        }
        return kind;
    }

    /** A number below end, at times just outside. */
    private static int near(int end) {
        int outside = draw(60);
        if (outside == 0) {
            return draw(4) == 0 ? Integer.MIN_VALUE : -1 - draw(3);
        }
        if (outside == 2) {
            return draw(4) == 0 ? Integer.MAX_VALUE : end;
        }
        return outside == 1 ? end + draw(3) : draw(end);
    }

    private static int drawWork() {
        return draw(3) > 0 ? draw(3) : near(8);
    }

    private static int drawRewrite() {
        int soFar = model.count(2);
        return near(soFar == 0 ? 1 : Math.min(soFar, 12)) + Math.max(0, soFar - 12);
    }

    private static void due(String call, int got, int want) {
        calls++;
        if (got != want) {
            System.out.println("run " + run + ", call " + calls + ": " + model.shown());
        }
        Due.is("run " + run + ", call " + calls + ": " + call, got, want);
    }

    private static void step(int kind) {
        if (kind < 9) {
            act(kind);
        } else if (kind < 15) {
            textOrHistory(kind);
        } else {
            tell(kind);
        }
    }

    private static void act(int kind) {
        int work = drawWork();
        int tongue = near(3);
        int room = near(4);
        int visitor = near(10);
        int number = drawRewrite();
        int limit = draw(2) == 0 ? 1 + draw(5) : near(16);
        int needed = draw(2) == 0 ? 1 + draw(2) : near(10);
        boolean flag = draw(3) > 0;
        String at = "(" + work + ", " + tongue + ")";
        switch (kind) {
            case 0:
                due("setLimit(" + room + ", " + limit + ")", real.setLimit(room, limit), model.setLimit(room, limit));
                break;
            case 1:
                due("ask(" + room + ", " + tongue + ", " + flag + ")", real.ask(room, tongue, flag),
                        model.ask(room, tongue, flag));
                break;
            case 2:
                due("bring(" + work + ", " + room + ")", real.bring(work, room), model.bring(work, room));
                break;
            case 3:
                due("label" + at, real.label(work, tongue), model.label(work, tongue));
                break;
            case 4:
                due("takeDown" + at, real.takeDown(work, tongue), model.takeDown(work, tongue));
                break;
            case 5:
                due("setNeeded(" + needed + ")", real.setNeeded(needed), model.setNeeded(needed));
                break;
            case 6:
                due("rewrite by " + visitor + at, real.rewrite(visitor, work, tongue),
                        model.rewrite(visitor, work, tongue));
                break;
            case 7:
                due("vote(" + visitor + ", " + number + ", " + flag + ")", real.vote(visitor, number, flag),
                        model.vote(visitor, number, flag));
                break;
            default:
                due("endWeek()", real.endWeek(), model.endWeek());
                break;
        }
    }

    private static void textOrHistory(int kind) {
        switch (kind) {
            case 9:
                retype();
                break;
            case 10:
                char character = draw(5) > 0 ? (char) ('a' + draw(3)) : (char) draw(300);
                due("type " + (int) character, real.type(character), model.type(character));
                break;
            case 11:
                due("type a blank", real.type(' '), model.type(' '));
                break;
            case 12:
                due("undo()", real.undo(), model.undo());
                break;
            case 13:
                due("keep()", real.keep(), model.keep());
                break;
            default:
                due("restore()", real.restore(), model.restore());
                break;
        }
    }

    private static void retype() {
        due("clearText()", real.clearText(), model.clearText());
        String text = TEXTS[draw(TEXTS.length)];
        for (int i = 0; i < text.length() && calls < CALLS; i++) {
            due("type " + text.charAt(i), real.type(text.charAt(i)), model.type(text.charAt(i)));
        }
    }

    private static void tell(int kind) {
        int work = drawWork();
        int tongue = near(3);
        int room = near(4);
        int visitor = near(10);
        int number = drawRewrite();
        String at = "(" + work + ", " + tongue + ", ";
        int what;
        switch (kind) {
            case 15:
                what = near(5);
                due("labelOf" + at + what + ")", real.labelOf(work, tongue, what), model.labelOf(work, tongue, what));
                break;
            case 16:
                what = near(12);
                due("letter" + at + what + ")", real.letter(work, tongue, what), model.letter(work, tongue, what));
                break;
            case 17:
                what = near(8);
                due("rewriteOf(" + number + ", " + what + ")", real.rewriteOf(number, what),
                        model.rewriteOf(number, what));
                break;
            case 18:
                what = near(4);
                due("ranked" + at + what + ")", real.ranked(work, tongue, what), model.ranked(work, tongue, what));
                break;
            case 19:
                what = near(7);
                due("room(" + room + ", " + what + ")", real.room(room, what), model.room(room, what));
                break;
            case 20:
                what = near(4);
                due("visitor(" + visitor + ", " + what + ")", real.visitor(visitor, what),
                        model.visitor(visitor, what));
                break;
            case 21:
                due("labelsWith(" + tongue + ")", real.labelsWith(tongue), model.labelsWith(tongue));
                break;
            default:
                what = near(12);
                due("count(" + what + ")", real.count(what), model.count(what));
                break;
        }
    }
}
