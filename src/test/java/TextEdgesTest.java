/** The edges of the text: empty, full, each character that is just allowed or just not, each place of a fault. */
public final class TextEdgesTest {
    public static void main(String[] args) {
        textIsEmptyAtFirst();
        textHasAtMostSixtyCharacters();
        textIsFullUntilItIsCleared();
        lettersAreFromAToZ();
        faultIsTheFirstThatIsNotAllowed();
        faultIsTheLengthIfItEndsTooEarly();
        aFaultAtEachPlace();
        aBlankAtEachEnd();
        thirtyWordsAreTheMost();
        textStays();
        Due.end();
    }

    private static void faultIs(String text, int fault) {
        VotedLabels x = new VotedLabels();
        Due.text(x, text);
        Due.is("labelsWith '" + text + "'", x.labelsWith(0), -100 - fault);
        Due.is("label '" + text + "'", x.label(0, 0), -100 - fault);
        Due.is("rewrite '" + text + "'", x.rewrite(0, 0, 0), -100 - fault);
    }

    private static void textIsEmptyAtFirst() {
        Due.is("length", new VotedLabels().count(11), 0);
        Due.is("cleared", new VotedLabels().clearText(), 0);
        Due.is("fault", new VotedLabels().labelsWith(0), -100);
        Due.is("the first character", new VotedLabels().type('a'), 1);
    }

    private static void textHasAtMostSixtyCharacters() {
        VotedLabels x = new VotedLabels();
        for (int length = 1; length <= 60; length++) {
            Due.is("character " + length, x.type('k'), length);
            Due.is("length", x.count(11), length);
        }
        Due.is("one more", x.type('k'), VotedLabels.FULL);
        Due.is("length", x.count(11), 60);
        Due.is("cleared", x.clearText(), 60);
    }

    private static void textIsFullUntilItIsCleared() {
        VotedLabels x = new VotedLabels();
        Due.text(x, "k".repeat(60));
        char[] any = {'a', 'z', ' ', 'A', (char) 0, (char) 65535};
        for (char character : any) {
            Due.is("full for " + (int) character, x.type(character), VotedLabels.FULL);
        }
        x.clearText();
        Due.is("no longer full", x.type('a'), 1);
        Due.is("the rest is gone", x.label(0, 0), 1);
        Due.shows(x, 0, 0, "a");
    }

    private static void lettersAreFromAToZ() {
        for (int sign = 0; sign < 65536; sign += sign < 400 ? 1 : 97) {
            VotedLabels x = new VotedLabels();
            boolean isLetter = sign >= 'a' && sign <= 'z';
            Due.is("typed " + sign, x.type((char) sign), 1);
            Due.is("alone " + sign, x.labelsWith(0), isLetter ? 0 : -100);
            Due.text(x, "b" + (char) sign + "c");
            Due.is("inside " + sign, x.labelsWith(0), isLetter || sign == ' ' ? 0 : -101);
        }
        VotedLabels x = new VotedLabels();
        x.type((char) 65535);
        Due.is("the largest character", x.labelsWith(0), -100);
        Due.text(x, "abcdefghijklmnopqrstuvwxyz");
        x.label(0, 0);
        Due.shows(x, 0, 0, "abcdefghijklmnopqrstuvwxyz");
    }

    private static void faultIsTheFirstThatIsNotAllowed() {
        faultIs("a?b!", 1);
        faultIs("?", 0);
        faultIs("ab  cd  ", 3);
        faultIs("ab 3 ", 3);
        faultIs("ab c3 ", 4);
        faultIs("  ", 0);
    }

    private static void faultIsTheLengthIfItEndsTooEarly() {
        faultIs("", 0);
        for (int length = 1; length < 60; length++) {
            faultIs("e".repeat(length) + " ", length + 1);
        }
    }

    private static void aFaultAtEachPlace() {
        for (int index = 0; index < 60; index++) {
            VotedLabels x = new VotedLabels();
            Due.text(x, "e".repeat(index) + "E");
            Due.is("fault at " + index, x.labelsWith(0), -100 - index);
        }
    }

    private static void aBlankAtEachEnd() {
        faultIs(" ", 0);
        faultIs(" a", 0);
        faultIs(" a ", 0);
        faultIs("a ", 2);
        faultIs("a  ", 2);
        faultIs("a  b", 2);
        faultIs("a b ", 4);
        VotedLabels x = new VotedLabels();
        Due.text(x, "a b");
        Due.is("one blank between two", x.label(0, 0), 2);
    }

    private static void thirtyWordsAreTheMost() {
        VotedLabels x = new VotedLabels();
        Due.text(x, "zz");
        x.label(0, 0);
        Due.text(x, Galleries.words(29) + " zz");
        Due.is("sixty characters", x.count(11), 60);
        Due.is("the thirtieth word is looked at", x.labelsWith(0), 1);
        x.setLimit(0, 15);
        Due.is("thirty words are too long", x.label(0, 0), VotedLabels.TOO_LONG);
        Due.is("thirty words are too long", x.rewrite(0, 0, 0), VotedLabels.TOO_LONG);
        Due.text(x, Galleries.words(30) + " ");
        Due.is("sixty characters, a blank at the end", x.labelsWith(0), -160);
        Due.is("ahead of too long", x.label(0, 0), -160);
        Due.is("ahead of too long", x.rewrite(0, 0, 0), -160);
    }

    private static void textStays() {
        VotedLabels x = new VotedLabels();
        Due.text(x, "a b");
        x.label(0, 0);
        Due.is("label lets it stay", x.count(11), 3);
        x.rewrite(0, 1, 0);
        Due.is("rewrite lets it stay", x.count(11), 3);
        x.labelsWith(0);
        x.endWeek();
        x.keep();
        x.restore();
        x.undo();
        Due.is("all others, too", x.count(11), 3);
        Due.is("typed behind it", x.type('c'), 4);
        x.label(2, 0);
        Due.shows(x, 2, 0, "a bc");
    }
}
