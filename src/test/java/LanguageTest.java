import java.io.IOException;
import java.lang.reflect.Constructor;
import java.lang.reflect.Field;
import java.lang.reflect.Method;
import java.lang.reflect.Modifier;
import java.nio.file.Files;
import java.nio.file.Path;
import java.util.Arrays;
import java.util.List;
import java.util.Set;
import java.util.TreeSet;
import java.util.regex.Matcher;
import java.util.regex.Pattern;

/** The face of the document, and those rules of ../shared/LANGUAGE.md that can be seen from outside. */
public final class LanguageTest {
    private static final Path SOURCE = Path.of("src/main/java/VotedLabels.java");

    private static final List<String> FACE = List.of("setLimit(int,int)", "ask(int,int,boolean)", "bring(int,int)",
            "label(int,int)", "takeDown(int,int)", "setNeeded(int)", "rewrite(int,int,int)",
            "vote(int,int,boolean)", "endWeek()", "type(char)", "clearText()", "undo()", "keep()", "restore()",
            "labelOf(int,int,int)", "letter(int,int,int)", "rewriteOf(int,int)", "ranked(int,int,int)",
            "room(int,int)", "visitor(int,int)", "labelsWith(int)", "count(int)");

    private static final Set<String> CONSTANTS = Set.of("UNKNOWN", "BAD_VALUE", "FULL", "NOT_POSSIBLE", "NONE",
            "TOO_LONG");

    private static final List<String> FORBIDDEN = List.of("throw", "throws", "try", "catch", "finally",
            "synchronized", "assert", "package", "equals", "hashCode", "toString", "System\\.(?!arraycopy)\\w+",
            "\\w+Exact", "Random", "Thread", "Object", "->", "::", "\"");

    public static void main(String[] args) throws IOException {
        faceIsTheDocuments();
        classesInside();
        sourceKeepsToTheRules(Files.readString(SOURCE));
        Due.end();
    }

    private static void faceIsTheDocuments() {
        Class<?> face = VotedLabels.class;
        Due.isTrue("public and final",
                (face.getModifiers() & (Modifier.PUBLIC | Modifier.FINAL)) == (Modifier.PUBLIC | Modifier.FINAL));
        Set<String> methods = new TreeSet<>();
        for (Method method : face.getDeclaredMethods()) {
            boolean isPublic = Modifier.isPublic(method.getModifiers());
            Due.isTrue(method + " is public or private", isPublic || Modifier.isPrivate(method.getModifiers()));
            if (isPublic) {
                Due.isTrue(method + " answers int", method.getReturnType() == int.class);
                Due.isTrue(method + " is of the object", !Modifier.isStatic(method.getModifiers()));
                methods.add(signature(method));
            }
        }
        Due.isTrue("the methods are " + methods, methods.equals(new TreeSet<>(FACE)));
        Constructor<?>[] constructors = face.getDeclaredConstructors();
        Due.is("constructors", constructors.length, 1);
        Due.isTrue("the constructor is public", Modifier.isPublic(constructors[0].getModifiers()));
        for (Field field : face.getDeclaredFields()) {
            boolean isFace = CONSTANTS.contains(field.getName());
            Due.isTrue(field + " is of the face or private",
                    isFace ? Modifier.isPublic(field.getModifiers()) : Modifier.isPrivate(field.getModifiers()));
            staticIsFinal(field);
        }
    }

    private static String signature(Method method) {
        StringBuilder types = new StringBuilder();
        for (Class<?> type : method.getParameterTypes()) {
            types.append(types.length() == 0 ? "" : ",").append(type.getName());
        }
        return method.getName() + "(" + types + ")";
    }

    private static void staticIsFinal(Field field) {
        int modifiers = field.getModifiers();
        Due.isTrue(field + " is final if static", !Modifier.isStatic(modifiers) || Modifier.isFinal(modifiers));
    }

    private static void classesInside() {
        Class<?>[] inside = VotedLabels.class.getDeclaredClasses();
        Due.isTrue("at most twelve classes", inside.length < 12);
        Set<String> faceNames = new TreeSet<>();
        FACE.forEach(signature -> faceNames.add(signature.substring(0, signature.indexOf('('))));
        for (Class<?> one : inside) {
            Due.isTrue(one + " is static", Modifier.isStatic(one.getModifiers()));
            Due.isTrue(one + " is not public", !Modifier.isPublic(one.getModifiers()));
            Due.isTrue(one + " has at most twenty fields", one.getDeclaredFields().length <= 20);
            Arrays.stream(one.getDeclaredFields()).forEach(LanguageTest::staticIsFinal);
            for (Method method : one.getDeclaredMethods()) {
                Due.isTrue(method + " has a name of its own", !faceNames.contains(method.getName()));
                Due.isTrue(method + " takes at most seven", method.getParameterCount() <= 7);
            }
        }
    }

    private static void sourceKeepsToTheRules(String source) {
        String code = source.replaceAll("(?s)/\\*.*?\\*/", "").replaceAll("//[^\n]*", "");
        for (String word : FORBIDDEN) {
            String edge = Character.isLetter(word.charAt(0)) ? "\\b" : "";
            boolean found = Pattern.compile(edge + word + edge).matcher(code).find();
            Due.isTrue("the source does without " + word, !found);
        }
        Matcher imports = Pattern.compile("import ([^;]+);").matcher(code);
        while (imports.find()) {
            String name = imports.group(1);
            Due.isTrue("import " + name, Set.of("java.util.Arrays", "java.util.ArrayList", "java.util.List")
                    .contains(name));
        }
        Due.isTrue("plain signs alone", source.chars().allMatch(sign -> sign == '\n' || (sign >= 32 && sign < 127)));
        methodsAreShort(code);
        nothingIsMadeByCalls(code);
    }

    /** A method begins with a line that ends with ") {" and has one or two levels of indent. */
    private static void methodsAreShort(String code) {
        String[] lines = code.split("\n");
        for (int i = 0; i < lines.length; i++) {
            Matcher head = Pattern.compile("( {4}| {8})\\w.*\\) \\{").matcher(lines[i]);
            if (head.matches()) {
                int end = i;
                while (!lines[end].equals(head.group(1) + "}")) {
                    end++;
                }
                Due.isTrue(lines[i].trim() + " is short", end - i <= 60);
            }
        }
    }

    /** Rows are made in constructors and initialisers alone: "new" stands behind a field or its row. */
    private static void nothingIsMadeByCalls(String code) {
        Matcher made = Pattern.compile("[^\n]*\\bnew\\b[^\n]*").matcher(code);
        while (made.find()) {
            String line = made.group();
            boolean initialiser = line.matches(" {8}(private )?final .* = new .*;");
            boolean constructor = line.matches(" {8}\\w+ = new .*;") || line.matches(" {16}\\w+\\[\\w+\\] = new .*;");
            Due.isTrue(line.trim() + " is made with its object", initialiser || constructor);
        }
    }
}
