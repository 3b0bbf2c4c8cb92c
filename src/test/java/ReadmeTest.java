import java.io.IOException;
import java.nio.file.Files;
import java.nio.file.Path;
import java.util.ArrayList;
import java.util.List;
import java.util.regex.Matcher;
import java.util.regex.Pattern;

/** What README.md tells of the class: the answers of its example, and that it names each call and test. */
public final class ReadmeTest {
    private static final Pattern ANSWER = Pattern.compile("(gallery\\.\\w+\\([^;]*\\)); +// (-?\\d+)[:,]");

    public static void main(String[] args) throws IOException {
        String readme = Files.readString(Path.of("README.md"));
        Due.isTrue("the answers are those of the example", toldAnswers(readme).equals(givenAnswers()));
        eachCallIsNamed(readme);
        eachTestIsNamed(readme);
        Due.end();
    }

    /** Each call of the example that has its answer behind it. */
    private static List<String> toldAnswers(String readme) {
        List<String> told = new ArrayList<>();
        Matcher matcher = ANSWER.matcher(readme);
        while (matcher.find()) {
            told.add(matcher.group(1) + " " + matcher.group(2));
        }
        return told;
    }

    private static List<String> givenAnswers() {
        VotedLabels gallery = new VotedLabels();
        List<String> given = new ArrayList<>();
        Due.type(gallery, "red cow");
        given.add("gallery.label(0, 0) " + gallery.label(0, 0));
        gallery.clearText();
        Due.type(gallery, "a red cow");
        int rewrite = gallery.rewrite(3, 0, 0);
        given.add("gallery.rewrite(3, 0, 0) " + rewrite);
        gallery.vote(4, rewrite, true);
        given.add("gallery.vote(5, rewrite, true) " + gallery.vote(5, rewrite, true));
        given.add("gallery.rewriteOf(rewrite, 6) " + gallery.rewriteOf(rewrite, 6));
        given.add("gallery.endWeek() " + gallery.endWeek());
        given.add("gallery.labelOf(0, 0, 2) " + gallery.labelOf(0, 0, 2));
        given.add("gallery.setLimit(0, 2) " + gallery.setLimit(0, 2));
        given.add("gallery.undo() " + gallery.undo());
        gallery.type(' ');
        given.add("gallery.label(0, 0) " + gallery.label(0, 0));
        return given;
    }

    private static void eachCallIsNamed(String readme) {
        for (java.lang.reflect.Method method : VotedLabels.class.getDeclaredMethods()) {
            boolean isFace = java.lang.reflect.Modifier.isPublic(method.getModifiers());
            Due.isTrue("README.md names " + method.getName(), !isFace || readme.contains("`" + method.getName() + "("));
        }
    }

    private static void eachTestIsNamed(String readme) throws IOException {
        try (var files = Files.list(Path.of("src/test/java"))) {
            for (Path file : files.toList()) {
                String name = file.getFileName().toString().replace(".java", "");
                Due.isTrue("README.md names " + name, readme.contains("`" + name + "`"));
            }
        }
    }
}
