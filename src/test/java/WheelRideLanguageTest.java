import java.io.IOException;
import java.lang.reflect.Method;
import java.lang.reflect.Modifier;
import java.nio.file.Files;
import java.nio.file.Path;
import java.util.Arrays;
import java.util.Set;
import java.util.TreeSet;
import java.util.regex.Matcher;
import java.util.regex.Pattern;

/** Rules of LANGUAGE.md that can be looked at from outside: the face, the words that are not used, the library. */
public final class WheelRideLanguageTest {
    private static final Check CHECK = new Check();
    private static final String[] FACE = {
        "int row(int, int, int)", "int set(int, int, int)", "int copy(int, int, int, int, int)", "int drop(int)",
        "int feed(int)", "int wheel()", "int fault()", "int undo()", "int steps(int)", "int turnTo(int)",
        "int ballast(int, int)", "int limit(int)", "int again(int)", "int party(int, int)", "int gondola(int, int)",
        "int stand(int)", "int ahead(int, int, int)", "int leans(int)", "int when(int, int)", "int first(int)",
        "int order(int, int)", "int load(int, int)", "int bear(int)", "int sets(int, int)", "int share(int, int)",
        "int byTurns(int, int)", "int who(int, int, int, int, int)", "long away(int, int, int)",
        "int drawn(int, int, int)", "int image(int)", "int restore(int)", "int kind(int)", "int as(int, int)",
        "int ask(int, int)", "int trace(int)", "int count(int)", "int status()"};
    private static final Set<String> LIBRARY = Set.of("Math.abs", "Math.max", "Math.min", "Integer.bitCount", "System.arraycopy");

    public static void main(String[] args) throws IOException {
        String source = Files.readString(Path.of(System.getProperty("wheelride.source", "src/main/java/WheelRide.java")));
        face();
        inside();
        words(source);
        sizes(source);
        CHECK.end();
    }

    private static void face() {
        Set<String> found = new TreeSet<>();
        for (Method m : WheelRide.class.getDeclaredMethods()) {
            if (Modifier.isPublic(m.getModifiers())) {
                found.add(signature(m));
            } else {
                CHECK.holds("private " + m.getName(), Modifier.isPrivate(m.getModifiers()));
            }
        }
        CHECK.holds("face " + found, found.equals(new TreeSet<>(Arrays.asList(FACE))));
        Set<String> constants = new TreeSet<>();
        for (var f : WheelRide.class.getDeclaredFields()) {
            if (Modifier.isPublic(f.getModifiers())) {
                constants.add(f.getName());
            } else {
                CHECK.holds("private field " + f.getName(), Modifier.isPrivate(f.getModifiers()));
            }
            if (Modifier.isStatic(f.getModifiers())) {
                CHECK.holds("final " + f.getName(), Modifier.isFinal(f.getModifiers()));
            }
        }
        CHECK.holds("constants " + constants, constants.equals(Set.of("NONE", "BAD", "STATE", "FULL")));
        CHECK.holds("final class", Modifier.isFinal(WheelRide.class.getModifiers()));
        CHECK.due("one constructor", WheelRide.class.getConstructors().length, 1);
    }

    private static String signature(Method m) {
        StringBuilder text = new StringBuilder(m.getReturnType().getName()).append(' ').append(m.getName()).append('(');
        for (Class<?> type : m.getParameterTypes()) {
            text.append(text.charAt(text.length() - 1) == '(' ? "" : ", ").append(type.getName());
        }
        return text.append(')').toString();
    }

    private static void inside() {
        Set<String> open = new TreeSet<>();
        for (String signature : FACE) {
            open.add(signature.substring(signature.indexOf(' ') + 1, signature.indexOf('(')));
        }
        Class<?>[] classes = WheelRide.class.getDeclaredClasses();
        CHECK.holds("at most some twelve classes", classes.length + 1 <= 12);
        for (Class<?> c : classes) {
            CHECK.holds("static " + c, Modifier.isStatic(c.getModifiers()));
            CHECK.holds("fields of " + c, c.getDeclaredFields().length <= 24);
            for (Method m : c.getDeclaredMethods()) {
                CHECK.holds("name of " + m, !open.contains(m.getName()));
                CHECK.holds("parameters of " + m, m.getParameterCount() <= 7);
            }
        }
    }

    private static void words(String source) {
        String code = source.replaceAll("(?s)/\\*.*?\\*/", " ").replaceAll("//[^\n]*", " ");
        for (String word : new String[] {"throw", "throws", "try", "catch", "finally", "synchronized", "assert", "import",
                "package", "protected", "double", "float", "String", "Object", "instanceof", "equals", "hashCode", "toString"}) {
            CHECK.holds("no " + word, !Pattern.compile("\\b" + word + "\\b").matcher(code).find());
        }
        CHECK.holds("no lambda", !code.contains("->"));
        CHECK.holds("no method reference", !code.contains("::"));
        CHECK.holds("no static block", !Pattern.compile("static\\s*\\{").matcher(code).find());
        Matcher call = Pattern.compile("\\b(Math|Integer|Long|System|Arrays)\\.\\w+").matcher(code);
        while (call.find()) {
            CHECK.holds("in the library: " + call.group(), LIBRARY.contains(call.group()));
        }
        for (int i = 0; i < code.length(); i++) {
            if (code.charAt(i) > 126) {
                CHECK.holds("sign " + (int) code.charAt(i), false);
            }
        }
    }

    /** A method begins with a line of one indent that ends in an opening brace, and ends with a brace of that indent. */
    private static void sizes(String source) {
        String[] lines = source.split("\n", -1);
        int longest = 0;
        for (int i = 0; i < lines.length; i++) {
            CHECK.holds("line " + (i + 1) + " is not too long", lines[i].length() <= 120);
            if (lines[i].matches(" {4,8}[^ /*].*\\(.*\\) \\{")) {
                String close = lines[i].replaceAll("[^ ].*", "") + "}";
                int end = i;
                while (end < lines.length && !lines[end].equals(close)) {
                    end++;
                }
                longest = Math.max(longest, end - i + 1);
            }
        }
        CHECK.holds("longest method of " + longest + " lines", longest > 5 && longest <= 60);
    }
}
