/** Compares answers with those that are due, for the tests' main methods. */
final class Due {
    private static int compared = 0;
    private static int wrong = 0;

    private Due() {
    }

    static void is(String call, long got, long want) {
        compared++;
        if (got != want) {
            wrong++;
            System.out.println(call + " answered " + got + ", due is " + want);
        }
    }

    static void isTrue(String what, boolean holds) {
        is(what, holds ? 1 : 0, 1);
    }

    static boolean allFine() {
        return wrong == 0;
    }

    /** Types the characters of a text behind the text that there is. */
    static void type(VotedLabels labels, String characters) {
        for (int i = 0; i < characters.length(); i++) {
            labels.type(characters.charAt(i));
        }
    }

    /** Makes the characters the text. */
    static void text(VotedLabels labels, String characters) {
        labels.clearText();
        type(labels, characters);
    }

    /** A label's characters, as letter tells them. */
    static String shown(VotedLabels labels, int work, int tongue) {
        StringBuilder shown = new StringBuilder();
        for (int i = 0; labels.letter(work, tongue, i) >= 0 && i < 100; i++) {
            shown.append((char) labels.letter(work, tongue, i));
        }
        return shown.toString();
    }

    static void shows(VotedLabels labels, int work, int tongue, String want) {
        String got = shown(labels, work, tongue);
        isTrue("label " + work + "/" + tongue + " '" + got + "' is '" + want + "'", got.equals(want));
    }

    static void end() {
        System.out.println(compared + " answers compared, " + wrong + " not as due");
        if (wrong != 0) {
            System.exit(1);
        }
    }
}
