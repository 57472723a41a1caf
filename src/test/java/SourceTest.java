import java.io.IOException;
import java.lang.reflect.Field;
import java.lang.reflect.Method;
import java.lang.reflect.Modifier;
import java.nio.file.Files;
import java.nio.file.Path;
import java.util.ArrayList;
import java.util.List;
import java.util.regex.Matcher;
import java.util.regex.Pattern;

/**
 * The text of the class: the face as the document writes it, with the lines that the interface says ahead of its
 * calls, and what can be seen of the rules of LANGUAGE.md without understanding the program.
 */
public final class SourceTest {
    private static final Check CHECK = new Check();
    private static final Path SOURCE = Path.of("src/main/java/MapCarrier.java");
    private static final Path DOCUMENT = Path.of("../shared/DOC.md");
    private static final Pattern AHEAD =
        Pattern.compile("(?m)^Ahead of the calls (.*) the interface says: (----.*)\\.$");
    private static final Pattern METHOD =
        Pattern.compile("(?m)^(    |        )(?!if|for|while|do|switch)\\w[^\\n/*;=]*\\([^;=]*?\\{\\n");
    // What LANGUAGE.md rules out, and catching, of which the class has no need.
    private static final String[] NEVER = {"->", "::", "synchronized", "assert", "try {", "catch", "finally",
        "static {", "System.out", "random", "currentTimeMillis", "nanoTime", "Exact", "Thread", "hashCode",
        "protected", "while (true)", "for (;;)"};

    private SourceTest() {
    }

    public static void main(String[] args) throws IOException {
        String source = Files.readString(SOURCE);
        String document = Files.readString(DOCUMENT);
        faceInTheDocumentsOrder(source, document);
        linesAheadOfTheCalls(source, document);
        onlyWhatTheLanguageHas(source);
        nothingIsMadeByACall(source);
        shortMethods(source);
        smallClasses();
        CHECK.close();
    }

    /** Each line of the document's face stands in the class, in the same order. */
    private static void faceInTheDocumentsOrder(String source, String document) {
        String flat = source.replaceAll("\\s+", " ");
        String face = document.substring(document.indexOf("```java") + 7);
        face = face.substring(0, face.indexOf("```"));
        int from = 0;
        int lines = 0;
        for (String line : face.split("\n")) {
            if (line.startsWith("    public ")) {
                String head = line.strip().replace(";", " {");
                int at = flat.indexOf(head, from);
                CHECK.same("the face has, in this order, " + head, at >= 0, true);
                from = Math.max(from, at);
                lines++;
            }
        }
        CHECK.same("the face's lines", lines, 34);
    }

    /** "Ahead of the calls .. the interface says: ---- .." */
    private static void linesAheadOfTheCalls(String source, String document) {
        List<String> due = new ArrayList<>();
        Matcher ahead = AHEAD.matcher(document);
        while (ahead.find()) {
            due.add(ahead.group(2));
            for (String call : ahead.group(1).split(", ")) {
                due.add(call.replace("`", ""));
            }
        }
        List<String> found = new ArrayList<>();
        Matcher line = Pattern.compile("(?m)^    (?:// (---- (?!help).*)|public \\w+ (\\w+)\\(.*)$").matcher(source);
        while (line.find()) {
            found.add(line.group(1) != null ? line.group(1) : line.group(2));
        }
        CHECK.same("lines and calls", due.size(), 5 + 33);
        CHECK.sameText("the lines ahead of the calls", found.toString(), due.toString());
    }

    /** LANGUAGE.md, rules 2 to 6 and 13. */
    private static void onlyWhatTheLanguageHas(String source) {
        String code = withoutComments(source);
        for (String word : NEVER) {
            CHECK.same("the class has no " + word, code.contains(word), false);
        }
        CHECK.same("signs are 1 to 127", source.chars().allMatch(sign -> sign > 0 && sign < 128), true);
        CHECK.same("no package line", code.contains("package "), false);
        for (String line : code.split("\n")) {
            if (line.startsWith("import ")) {
                CHECK.same(line, line.matches("import java\\.util\\.(Arrays|ArrayList|List|Iterator);"), true);
            }
            if (line.contains("throw ")) {
                CHECK.same(line, line.matches(" +throw new (IndexOutOfBounds|IllegalArgument|IllegalState)Exception"
                    + "\\(\"[^\"]+\"\\);"), true);
            }
        }
    }

    /** Rule 12: what is made is made with the object, so that no run of calls can make too much. */
    private static void nothingIsMadeByACall(String source) {
        for (String line : withoutComments(source).split("\n")) {
            if (line.contains("new ")) {
                boolean field = line.matches(" +private final [\\w\\[\\]]+ \\w+ = new .*;");
                boolean thrown = line.contains("throw new ");
                CHECK.same("made with the object, or thrown: " + line.strip(), field || thrown, true);
            }
        }
    }

    /** Rule 11: "Methods stay short (some sixty lines)". */
    private static void shortMethods(String source) {
        Matcher head = METHOD.matcher(source);
        int methods = 0;
        while (head.find()) {
            int end = source.indexOf("\n" + head.group(1) + "}\n", head.start());
            CHECK.same("ends: " + head.group().strip(), end > 0, true);
            long lines = source.substring(head.start(), Math.max(head.start(), end)).lines().count() + 1;
            CHECK.same("short: " + head.group().strip(), lines <= 60, true);
            methods++;
        }
        CHECK.same("methods were found", methods > 60, true);
    }

    /** Rules 5 and 11: constants alone are static; "at most seven parameters", "twelve classes", "twenty fields". */
    private static void smallClasses() {
        List<Class<?>> classes = new ArrayList<>(List.of(MapCarrier.class.getDeclaredClasses()));
        CHECK.same("all inside are private and static", classes.stream().allMatch(inner ->
            Modifier.isStatic(inner.getModifiers()) && !Modifier.isPublic(inner.getModifiers())), true);
        classes.add(MapCarrier.class);
        CHECK.same("classes", classes.size() <= 12, true);
        for (Class<?> one : classes) {
            int fields = 0;
            for (Field field : one.getDeclaredFields()) {
                boolean fixed = Modifier.isStatic(field.getModifiers());
                fields += fixed ? 0 : 1;
                boolean constant = Modifier.isFinal(field.getModifiers()) && field.getType() == int.class;
                CHECK.same("static fields are constants: " + field.getName(), !fixed || constant, true);
            }
            CHECK.same("fields of " + one.getName(), fields <= 20, true);
            for (Method method : one.getDeclaredMethods()) {
                CHECK.same("parameters of " + method.getName(), method.getParameterCount() <= 7, true);
            }
        }
    }

    private static String withoutComments(String source) {
        return source.replaceAll("(?s)/\\*.*?\\*/", "").replaceAll("//[^\n]*", "");
    }
}
