/** Promises 11 and 12: the text. */
public final class TextsTest {
    public static void main(String[] args) {
        promise11Type();
        promise12ClearText();
        textIsNoState();
        Due.end();
    }

    private static void promise11Type() {
        VotedLabels x = new VotedLabels();
        char[] any = {'a', ' ', 'Z', '\n', (char) 0, (char) 255, (char) 256, (char) 65535};
        for (int i = 0; i < any.length; i++) {
            Due.is("type " + (int) any[i], x.type(any[i]), i + 1);
        }
        for (int i = any.length; i < 60; i++) {
            Due.is("character " + i, x.type('q'), i + 1);
        }
        Due.is("the 61st", x.type('q'), VotedLabels.FULL);
        Due.is("the 61st, a blank", x.type(' '), VotedLabels.FULL);
        Due.is("length", x.count(11), 60);
        Due.is("no act", x.count(10), 0);
        Due.is("the fault is the first", x.label(0, 0), -102);
    }

    private static void promise12ClearText() {
        VotedLabels x = new VotedLabels();
        Due.is("empty", x.clearText(), 0);
        Due.type(x, "abc d");
        Due.is("five", x.clearText(), 5);
        Due.is("empty then", x.count(11), 0);
        Due.is("again", x.clearText(), 0);
        Due.is("fault", x.labelsWith(0), -100);
        Due.is("typed from the start", x.type('z'), 1);
        x.label(0, 0);
        Due.shows(x, 0, 0, "z");
        Due.is("acts", x.count(10), 1);
        Due.text(x, "a".repeat(60));
        Due.is("sixty", x.clearText(), 60);
        Due.is("room again", x.type('a'), 1);
    }

    private static void textIsNoState() {
        VotedLabels x = new VotedLabels();
        Due.text(x, "ab");
        x.label(0, 0);
        x.keep();
        Due.type(x, "c");
        x.undo();
        Due.is("undo leaves the text", x.count(11), 3);
        x.restore();
        Due.is("restore leaves the text", x.count(11), 3);
    }
}
