import java.io.IOException;
import java.lang.reflect.Constructor;
import java.lang.reflect.Field;
import java.lang.reflect.Method;
import java.lang.reflect.Modifier;
import java.nio.file.Files;
import java.nio.file.Path;
import java.util.ArrayList;
import java.util.List;
import java.util.Set;
import java.util.regex.Matcher;
import java.util.regex.Pattern;

/** The rules of LANGUAGE.md that show in the compiled class or in the lines of its file. */
public final class LanguageTest {
    private static final String SOURCE = "src/main/java/MailQueries.java";
    private static final Set<String> FACE = Set.of("feed", "end", "read", "fault", "atom", "atomByte", "range", "tree",
            "print", "printed", "normal", "row", "ask", "ways");
    private static final Set<String> CONSTANTS = Set.of("int", "long", "boolean", "char", "java.lang.String", "[I", "[J",
            "[C", "[B");
    private static final Set<String> LIBRARY = Set.of("String.length", "String.charAt", "Math.max", "Math.min",
            "Long.bitCount", "System.arraycopy");
    private static final String[] FORBIDDEN = {"package", "import", "finally", "synchronized", "assert", "protected",
        "try", "catch", "double", "float", "instanceof", "Object", "Thread", "Random"};

    public static void main(String[] args) throws IOException {
        List<Class<?>> classes = new ArrayList<>(List.of(MailQueries.class.getDeclaredClasses()));
        nestedClasses(classes);
        classes.add(MailQueries.class);
        for (Class<?> one : classes) {
            fields(one);
            methods(one);
            constructors(one);
        }
        String source = Files.readString(Path.of(SOURCE));
        words(source);
        throwsOnce(source);
        libraryCalls(source);
        methodLengths(source);
        Calls.finish();
    }

    private static void nestedClasses(List<Class<?>> nested) {
        Calls.sentence("rules 1, 2, 11: the classes inside are private or package-visible and static, at most twelve");
        Calls.due("classes beyond twelve", Math.max(0, nested.size() + 1 - 12), 0);
        for (Class<?> one : nested) {
            int is = one.getModifiers();
            Calls.due(one.getName() + " is static", Modifier.isStatic(is), true);
            Calls.due(one.getName() + " is public or protected", Modifier.isPublic(is) || Modifier.isProtected(is), false);
            Calls.due("classes inside " + one.getName(), one.getDeclaredClasses().length, 0);
        }
    }

    private static void fields(Class<?> one) {
        int own = 0;
        for (Field f : one.getDeclaredFields()) {
            String name = one.getName() + "." + f.getName();
            if (Modifier.isStatic(f.getModifiers())) {
                Calls.sentence("rule 5: static fields are final constants");
                Calls.due(name + " is final", Modifier.isFinal(f.getModifiers()), true);
                Calls.due(name + " is a constant's type", CONSTANTS.contains(f.getType().getName()), true);
            } else {
                own++;
            }
        }
        Calls.sentence("rule 11: a class has some twenty fields beside its constants");
        Calls.due("fields of " + one.getName() + " beyond twenty", Math.max(0, own - 20), 0);
    }

    private static void methods(Class<?> one) {
        for (Method m : one.getDeclaredMethods()) {
            String name = one.getName() + "." + m.getName();
            boolean isFace = one == MailQueries.class && Modifier.isPublic(m.getModifiers());
            Calls.sentence("rule 1: no private method bears the name of a public one");
            Calls.due(name + " has a name of the face", FACE.contains(m.getName()), isFace);
            Calls.sentence("rule 11: a method takes at most seven parameters");
            Calls.due(name + " takes more than seven", m.getParameterCount() > 7, false);
        }
    }

    /** All objects are made in the constructor of one that holds them, so what they are given it hands out. */
    private static void constructors(Class<?> one) {
        Calls.sentence("rule 12: a constructor hands out nothing of the object that it makes");
        for (Constructor<?> c : one.getDeclaredConstructors()) {
            for (Class<?> given : c.getParameterTypes()) {
                Calls.due(c + " is given numbers alone", given.isPrimitive(), true);
            }
        }
    }

    private static void words(String source) {
        Calls.sentence("rules 1 to 6, 13: what the file leaves out");
        for (String word : FORBIDDEN) {
            Calls.due("'" + word + "' stands in the code",
                    Pattern.compile("\\b" + word + "\\b").matcher(codeOf(source)).find(), false);
        }
        Calls.due("a lambda or method reference", codeOf(source).contains("->") || codeOf(source).contains("::"), false);
    }

    private static void throwsOnce(String source) {
        Calls.sentence("rule 6: throw new E(\"a written text\"), where the document says");
        Calls.due("what is thrown", found("throw [^;]*;", codeOf(source)).toString(),
                "[throw new IllegalArgumentException(\"\");]");
    }

    private static void libraryCalls(String source) {
        Calls.sentence("rule 4: the library: only what stands here");
        for (String call : found("\\b(Math|Long|Integer|System|Arrays|Character|String)\\.\\w+", codeOf(source))) {
            Calls.due(call + " may be used", LIBRARY.contains(call), true);
        }
    }

    private static void methodLengths(String source) {
        Calls.sentence("rule 11: methods stay short (some sixty lines)");
        Matcher m = Pattern.compile("(?m)^((?:    ){1,2})(?!(?:private static final )?class)\\S[^=;\\n]*\\) [^;\\n]*\\{\\n"
                + "(?s:.*?)\\n\\1\\}").matcher(source);
        int methods = 0;
        while (m.find()) {
            methods++;
            String[] lines = m.group().split("\n");
            Calls.due("more than sixty lines: " + lines[0].trim(), lines.length > 60, false);
        }
        Calls.due("methods were found", methods > 50, true);
    }

    /** The file without its comments and the insides of its texts and characters. */
    private static String codeOf(String source) {
        return source.replaceAll("(?s)/\\*.*?\\*/", "").replaceAll("//.*", "")
                .replaceAll("'(\\\\.|[^'\\\\])'", "''").replaceAll("\"(\\\\.|[^\"\\\\])*\"", "\"\"");
    }

    private static List<String> found(String pattern, String text) {
        List<String> all = new ArrayList<>();
        Matcher m = Pattern.compile(pattern).matcher(text);
        while (m.find()) {
            all.add(m.group());
        }
        return all;
    }
}
