import java.io.IOException;
import java.lang.reflect.Constructor;
import java.lang.reflect.Field;
import java.lang.reflect.Method;
import java.lang.reflect.Modifier;
import java.nio.charset.StandardCharsets;
import java.nio.file.Files;
import java.nio.file.Path;
import java.util.HashSet;
import java.util.List;
import java.util.Set;
import java.util.TreeSet;
import java.util.regex.Pattern;

/** The document's face, and those rules of LANGUAGE.md that can be looked for. */
public final class LanguageTest {
    private static final Due due = new Due();
    private static final Path SOURCE = Path.of("src", "main", "java", "OneGlove.java");
    private static final String[] FACE = {
        "int set(int,int,int)", "int glove(int,int,int)", "int told(int,int)", "int feed(int)", "int text()",
        "int force(int)", "int day(int,int,int)", "long found(int,int,int)", "long parts(int,int)",
        "long waiting(int,int)", "long hang(int,int)", "long walk(int,int)", "int best(int,int)",
        "long first(int,int)", "int giveUp(int,int)", "int tells(int,int,int)", "int film(int,int,int)",
        "int lot(int,int)", "long chance(int,int,int,int)", "int image()", "int back()", "int count(int)",
        "int sheet(int,int,int)", "int cell(int,int,int)", "int copy(int,int,int,int,int)",
        "int gloves(int,int,int,int)", "int taken(int,int)"};
    private static final String[] FORBIDDEN = {"\\bthrow\\b", "\\bthrows\\b", "\\btry\\b", "\\bcatch\\b",
        "\\bsynchronized\\b", "\\bassert\\b", "->", "::", "\\bimport\\b", "\\bpackage\\b", "Exact\\(",
        "\\bprotected\\b", "\\bdouble\\b", "\\bfloat\\b", "\\bstatic \\{", "String\\.valueOf", "\" \\+", "\\+ \""};

    private LanguageTest() {
    }

    public static void main(String[] args) throws IOException {
        constants();
        face();
        Set<Class<?>> all = new HashSet<>(List.of(OneGlove.class.getDeclaredClasses()));
        for (Class<?> inside : all) {
            due.holds(inside + " is static", Modifier.isStatic(inside.getModifiers()));
            due.holds(inside + " has none inside", inside.getDeclaredClasses().length == 0);
            due.holds(inside + " is not public", !Modifier.isPublic(inside.getModifiers()));
        }
        all.add(OneGlove.class);
        due.holds("some twelve classes", all.size() <= 12);
        for (Class<?> one : all) {
            fields(one);
            methods(one);
        }
        List<String> lines = Files.readAllLines(SOURCE, StandardCharsets.US_ASCII);
        words(lines);
        lengths(lines);
        room(lines);
        due.end("LanguageTest");
    }

    private static void constants() {
        due.is("NONE", -1, OneGlove.NONE);
        due.is("BAD", -2, OneGlove.BAD);
        due.is("STATE", -3, OneGlove.STATE);
        due.is("FULL", -4, OneGlove.FULL);
        due.is("NO", -4611686018427387904L, OneGlove.NO);
    }

    private static void face() {
        int type = OneGlove.class.getModifiers();
        due.holds("public and final", Modifier.isPublic(type) && Modifier.isFinal(type));
        Constructor<?>[] constructors = OneGlove.class.getDeclaredConstructors();
        due.is("constructors", 1, constructors.length);
        due.holds("its own", Modifier.isPublic(constructors[0].getModifiers())
                && constructors[0].getParameterCount() == 0);
        Set<String> seen = new TreeSet<>();
        Set<String> names = new HashSet<>();
        for (Method method : OneGlove.class.getDeclaredMethods()) {
            if (Modifier.isPublic(method.getModifiers())) {
                due.holds(method + " is no static one", !Modifier.isStatic(method.getModifiers()));
                seen.add(told(method));
                names.add(method.getName());
            }
        }
        due.holds("the face's methods", seen.equals(new TreeSet<>(List.of(FACE))));
        for (Method method : OneGlove.class.getDeclaredMethods()) {
            if (!Modifier.isPublic(method.getModifiers())) {
                due.holds(method + " is private", Modifier.isPrivate(method.getModifiers()));
                due.holds(method + " bears a name of its own", !names.contains(method.getName()));
            }
        }
        Set<String> constants = new TreeSet<>();
        for (Field field : OneGlove.class.getDeclaredFields()) {
            if (Modifier.isPublic(field.getModifiers())) {
                constants.add(field.getType() + " " + field.getName());
            } else {
                due.holds(field + " is private", Modifier.isPrivate(field.getModifiers()));
            }
        }
        due.holds("the face's constants",
                constants.equals(Set.of("int NONE", "int BAD", "int STATE", "int FULL", "long NO")));
    }

    private static String told(Method method) {
        StringBuilder told = new StringBuilder();
        told.append(method.getReturnType()).append(' ').append(method.getName()).append('(');
        for (Class<?> parameter : method.getParameterTypes()) {
            told.append(told.charAt(told.length() - 1) == '(' ? "" : ",").append(parameter);
        }
        return told.append(')').toString();
    }

    private static void fields(Class<?> type) {
        Set<Class<?>> constants = Set.of(int.class, long.class, boolean.class, char.class, String.class,
                int[].class, long[].class, char[].class, byte[].class);
        int own = 0;
        for (Field field : type.getDeclaredFields()) {
            if (Modifier.isStatic(field.getModifiers())) {
                due.holds(field + " is final", Modifier.isFinal(field.getModifiers()));
                due.holds(field + " is a constant", constants.contains(field.getType()));
            } else {
                own++;
            }
        }
        due.holds(type + " has some twenty fields", own <= 20);
    }

    private static void methods(Class<?> type) {
        for (Method method : type.getDeclaredMethods()) {
            due.holds(method + " takes at most seven", method.getParameterCount() <= 7);
            due.holds(method + " is none of every object's",
                    !Set.of("equals", "hashCode", "toString", "finalize").contains(method.getName()));
        }
    }

    private static boolean isComment(String line) {
        String words = line.strip();
        return words.startsWith("//") || words.startsWith("*") || words.startsWith("/*");
    }

    private static void words(List<String> lines) {
        for (String line : lines) {
            for (String word : FORBIDDEN) {
                due.holds(word + " in: " + line, isComment(line) || !Pattern.compile(word).matcher(line).find());
            }
            due.holds("short: " + line, line.length() <= 120);
        }
    }

    /** A method's lines go from its head to the brace that stands as far in as the head. */
    private static void lengths(List<String> lines) {
        Pattern head = Pattern.compile("^( {4}| {8})[A-Za-z].*\\) \\{$");
        for (int i = 0; i < lines.size(); i++) {
            if (head.matcher(lines.get(i)).matches()) {
                String line = lines.get(i);
                String end = line.substring(0, line.length() - line.stripLeading().length()) + "}";
                int last = i;
                while (last < lines.size() && !lines.get(last).equals(end)) {
                    last++;
                }
                due.holds(line.strip() + " has " + (last - i + 1) + " lines", last - i + 1 <= 60);
            }
        }
    }

    /** All that is made is made with the object: a run of calls takes no more room. */
    private static void room(List<String> lines) {
        Pattern made = Pattern.compile("^ +(private final .* = new .*|[a-z]+\\[i\\] = new [A-Z][a-z]+\\(\\));$");
        for (String line : lines) {
            boolean makes = !isComment(line) && Pattern.compile("\\bnew\\b|\\bclone\\b|copyOf").matcher(line).find();
            due.holds("made with the object: " + line, !makes || made.matcher(line).matches());
        }
    }
}
