import java.io.IOException;
import java.lang.reflect.Field;
import java.lang.reflect.Method;
import java.lang.reflect.Modifier;
import java.nio.file.Files;
import java.nio.file.Path;
import java.util.ArrayList;
import java.util.HashSet;
import java.util.List;
import java.util.Set;
import java.util.TreeSet;
import java.util.regex.Matcher;
import java.util.regex.Pattern;

/** The public face of the document, and the rules of ../shared/LANGUAGE.md that a test can see. */
public final class FaceTest {
    private static final String SOURCE = "src/main/java/LoftGraves.java";
    private static final String[] FACE = {
        "feed(int,long)", "parish()", "custom()", "fault()", "told(int)", "yard(int,int)", "dead(int,int)", "order(int)",
        "letter(int,int)", "gift(int,int)", "knock(int)", "day(int)", "rats(int,int)", "lay(int,int)", "spring(int,int)",
        "offended(int)", "quarrels()", "laying(int)", "when(int,int)", "span(int,int,int,int)", "bribe(int,int)",
        "label(int,int)", "mark(int,int)", "fits()", "mixed(int)", "churches(int)",
        "write(int,int)", "tear()", "judge()", "seed(int)", "keep(int)", "goBack(int)"
    };
    private static final String[] FORBIDDEN = {
        "throw", "throws", "try", "catch", "finally", "synchronized", "assert", "import", "package", "->", "::",
        "System", "Arrays", "Object", "\\w+Exact", "native", "volatile", "transient", "protected"
    };

    private static int wrong = 0;

    private static void check(boolean holds, String what) {
        if (holds) return;
        wrong++;
        System.out.println("not so: " + what);
    }

    public static void main(String[] args) throws IOException {
        checkConstants();
        checkMembers();
        checkClasses();
        String source = Files.readString(Path.of(SOURCE));
        checkWords(withoutTexts(source));
        checkMethodLengths(source);
        if (wrong != 0) System.exit(1);
        System.out.println("the face and the language are as due");
    }

    private static void checkConstants() {
        check(LoftGraves.NONE == -1, "NONE");
        check(LoftGraves.UNKNOWN == -1000000001, "UNKNOWN");
        check(LoftGraves.OUTSIDE == -1000000002, "OUTSIDE");
        check(LoftGraves.NOT == -1000000003, "NOT");
        check(LoftGraves.FULL == -1000000004, "FULL");
    }

    private static void checkMembers() {
        Set<String> due = new TreeSet<>(List.of(FACE));
        Set<String> names = namesOfTheFace();
        Set<String> found = new TreeSet<>();
        for (Method method : LoftGraves.class.getDeclaredMethods()) {
            if (Modifier.isPublic(method.getModifiers())) {
                check(method.getReturnType() == int.class, method + " answers an int");
                found.add(signature(method));
            } else {
                check(Modifier.isPrivate(method.getModifiers()), method + " is private");
                check(!names.contains(method.getName()), method + " bears the name of a public one");
            }
        }
        check(due.equals(found), "the public methods are those of the face: " + found);
        Set<String> constants = new HashSet<>(List.of("NONE", "UNKNOWN", "OUTSIDE", "NOT", "FULL"));
        for (Field field : LoftGraves.class.getDeclaredFields()) {
            int kind = field.getModifiers();
            check(constants.contains(field.getName()) == Modifier.isPublic(kind), field + " is public only if a constant");
            check(Modifier.isPublic(kind) || Modifier.isPrivate(kind), field + " is private");
            check(!Modifier.isStatic(kind) || Modifier.isFinal(kind), field + " is final if static");
        }
    }

    private static String signature(Method method) {
        List<String> kinds = new ArrayList<>();
        for (Class<?> kind : method.getParameterTypes()) kinds.add(kind.getSimpleName());
        return method.getName() + "(" + String.join(",", kinds) + ")";
    }

    private static Set<String> namesOfTheFace() {
        Set<String> names = new HashSet<>();
        for (String face : FACE) names.add(face.substring(0, face.indexOf('(')));
        return names;
    }

    private static void checkClasses() {
        check(Modifier.isFinal(LoftGraves.class.getModifiers()), "the class is final");
        check(LoftGraves.class.getConstructors().length == 1, "one public constructor");
        Class<?>[] inside = LoftGraves.class.getDeclaredClasses();
        check(inside.length < 12, "some twelve classes at most");
        for (Class<?> one : inside) {
            int kind = one.getModifiers();
            check(Modifier.isStatic(kind) && !Modifier.isPublic(kind) && !Modifier.isProtected(kind), one + " is static, not public");
            int own = 0;
            for (Field field : one.getDeclaredFields()) {
                if (!Modifier.isStatic(field.getModifiers())) own++;
            }
            check(own <= 20, one + " has twenty fields at most");
            for (Method method : one.getDeclaredMethods()) {
                check(!namesOfTheFace().contains(method.getName()), method + " bears the name of a public one");
                check(method.getParameterCount() <= 7, method + " takes seven parameters at most");
            }
        }
    }

    private static String withoutTexts(String source) {
        return source.replaceAll("(?s)/\\*.*?\\*/", " ").replaceAll("//[^\n]*", " ").replaceAll("\"[^\"\n]*\"", "\"\"");
    }

    private static void checkWords(String code) {
        for (String word : FORBIDDEN) {
            boolean letters = Character.isLetter(word.charAt(0)) || word.charAt(0) == '\\';
            Matcher found = Pattern.compile(letters ? "\\b" + word + "(?!\\w)" : word).matcher(code);
            check(!found.find(), "no '" + word + "' in the program");
        }
        check(!code.contains("\"\" +") && !code.contains("+ \"\""), "no texts joined by +");
    }

    private static void checkMethodLengths(String source) {
        String[] lines = source.split("\n");
        Pattern head = Pattern.compile("^( {4}| {8})(public|private) [^=;]*\\) \\{$");
        for (int i = 0; i < lines.length; i++) {
            Matcher found = head.matcher(lines[i]);
            if (!found.find()) continue;
            String end = found.group(1) + "}";
            int length = 1;
            while (i + length < lines.length && !lines[i + length].equals(end)) length++;
            check(length <= 60, "sixty lines at most: " + lines[i].trim());
        }
    }
}
