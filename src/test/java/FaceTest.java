import java.io.IOException;
import java.lang.reflect.Constructor;
import java.lang.reflect.Field;
import java.lang.reflect.Method;
import java.lang.reflect.Modifier;
import java.nio.file.Files;
import java.nio.file.Path;
import java.util.List;
import java.util.Set;
import java.util.TreeSet;
import java.util.regex.Matcher;
import java.util.regex.Pattern;

/** The face that the document tells, and what LANGUAGE.md lets a reader see at a glance. */
public final class FaceTest {
    private static final Check CHECK = new Check("the face");
    private static final Set<String> FACE = Set.of(
        "public static final int CodeImages.NONE",
        "public static final int CodeImages.FULL",
        "public CodeImages()",
        "public int CodeImages.feed(int,int,int,int,int)",
        "public int CodeImages.end(int)",
        "public int CodeImages.count(int)",
        "public int CodeImages.classOf(int,int,int)",
        "public boolean CodeImages.isA(int,int)",
        "public int CodeImages.method(int,int,int)",
        "public int CodeImages.handler(int,int,int)",
        "public int CodeImages.instruction(int,int,int)",
        "public int CodeImages.thrown(int)");
    private static final Set<String> FACE_METHODS = Set.of(
        "feed", "end", "count", "classOf", "isA", "method", "handler", "instruction", "thrown");
    /** The types that a static field can have: rule 5. */
    private static final Set<Class<?>> CONSTANTS = Set.of(
        int.class, long.class, boolean.class, char.class, String.class,
        int[].class, long[].class, char[].class, byte[].class);
    /** What the class may call of the library's static functions: rule 4. */
    private static final Set<String> LIBRARY = Set.of(
        "Arrays.fill", "Arrays.copyOf", "Arrays.copyOfRange", "System.arraycopy", "Math.max", "Math.min");

    public static void main(String[] args) throws IOException {
        CHECK.due("modifiers of the class", CodeImages.class.getModifiers(), Modifier.PUBLIC | Modifier.FINAL);
        face();
        inside();
        fields(CodeImages.class);
        for (Class<?> one : CodeImages.class.getDeclaredClasses()) {
            fields(one);
        }
        source(Files.readString(Path.of("src/main/java/CodeImages.java")));
        lengths(Files.readAllLines(Path.of("src/main/java/CodeImages.java")));
        CHECK.end();
    }

    private static void face() {
        Set<String> seen = new TreeSet<>();
        for (Field field : CodeImages.class.getDeclaredFields()) {
            addSeen(seen, field.getModifiers(), field.toString());
        }
        for (Constructor<?> constructor : CodeImages.class.getDeclaredConstructors()) {
            addSeen(seen, constructor.getModifiers(), constructor.toString());
        }
        for (Method method : CodeImages.class.getDeclaredMethods()) {
            addSeen(seen, method.getModifiers(), method.toString());
            CHECK.due(method + " is private with a public name",
                Modifier.isPrivate(method.getModifiers()) && FACE_METHODS.contains(method.getName()), false);
        }
        for (String member : seen) {
            CHECK.due("in the document: " + member, FACE.contains(member), true);
        }
        CHECK.due("members", seen.size(), FACE.size());
    }

    private static void addSeen(Set<String> seen, int modifiers, String member) {
        if (!Modifier.isPrivate(modifiers)) {
            seen.add(member);
        }
    }

    private static void inside() {
        Class<?>[] classes = CodeImages.class.getDeclaredClasses();
        CHECK.due("at most twelve classes", classes.length <= 12, true);
        for (Class<?> one : classes) {
            CHECK.due(one + " is static", Modifier.isStatic(one.getModifiers()), true);
            CHECK.due(one + " is not public", Modifier.isPublic(one.getModifiers()), false);
            for (Method method : one.getDeclaredMethods()) {
                CHECK.due(method + " takes at most seven", method.getParameterCount() <= 7, true);
                CHECK.due(method + " bears a public name", FACE_METHODS.contains(method.getName()), false);
            }
        }
    }

    private static void fields(Class<?> one) {
        int own = 0;
        for (Field field : one.getDeclaredFields()) {
            if (Modifier.isStatic(field.getModifiers())) {
                CHECK.due(field + " is final", Modifier.isFinal(field.getModifiers()), true);
                CHECK.due(field + " is a constant", CONSTANTS.contains(field.getType()), true);
            } else {
                own++;
            }
        }
        CHECK.due(one + " has at most twenty fields", own <= 20, true);
    }

    private static void source(String text) {
        String code = text.replaceAll("(?s)/\\*.*?\\*/", " ").replaceAll("//[^\n]*", " ");
        for (String word : new String[] {
            "throw", "try", "catch", "synchronized", "assert", "package", "transient", "volatile", "native",
        }) {
            CHECK.due("no " + word, Pattern.compile("\\b" + word + "\\b").matcher(code).find(), false);
        }
        CHECK.due("no lambda", code.contains("->"), false);
        CHECK.due("no method reference", code.contains("::"), false);
        CHECK.due("no text", code.contains("\""), false);
        loops(code);
        Matcher calls = Pattern.compile("\\b(?:Arrays|System|Math|Integer|Long|List)\\.\\w+").matcher(code);
        while (calls.find()) {
            CHECK.due("library: " + calls.group(), LIBRARY.contains(calls.group()), true);
        }
        Matcher imports = Pattern.compile("import ([^;]*);").matcher(code);
        while (imports.find()) {
            CHECK.due("import " + imports.group(1),
                Set.of("java.util.Arrays", "java.util.ArrayList", "java.util.List").contains(imports.group(1)), true);
        }
    }

    /** Rule 9: each loop counts up to a bound that stands in its own line. */
    private static void loops(String code) {
        CHECK.due("no while", Pattern.compile("\\b(while|do)\\b").matcher(code).find(), false);
        Matcher loops = Pattern.compile("\\bfor\\b[^\\n]*").matcher(code);
        while (loops.find()) {
            CHECK.due("counts: " + loops.group(),
                loops.group().matches("for \\(int (\\w+) = [01]; \\1 < [^;]*; \\1\\+\\+\\) \\{"), true);
        }
    }

    /** Rules 11 and 12: methods stay short, and none of them makes an object but the constructor. */
    private static void lengths(List<String> lines) {
        String head = "";
        int start = 0;
        for (int i = 0; i < lines.size(); i++) {
            String line = lines.get(i);
            if (line.matches("( {4}| {8})\\w[^=]*\\) \\{")) {
                head = line.trim();
                start = i;
            } else if (line.matches("( {4}| {8})\\}")) {
                CHECK.due(head + " has at most sixty lines", head.isEmpty() || i - start < 60, true);
                head = "";
            }
            if (line.contains("new ") && !head.isEmpty()) {
                CHECK.due("made in a constructor: " + line, head, "public CodeImages() {");
            }
        }
    }
}
