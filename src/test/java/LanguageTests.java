import java.io.IOException;
import java.lang.reflect.Array;
import java.lang.reflect.Constructor;
import java.lang.reflect.Field;
import java.lang.reflect.Method;
import java.lang.reflect.Modifier;
import java.nio.charset.StandardCharsets;
import java.nio.file.Files;
import java.nio.file.Path;
import java.util.Collections;
import java.util.IdentityHashMap;
import java.util.Set;
import java.util.TreeSet;
import java.util.regex.Matcher;
import java.util.regex.Pattern;
import java.util.stream.Stream;

/** The face is the document's and no more, and the source keeps to what can be seen of LANGUAGE.md. */
public final class LanguageTests {
    private static final Set<String> FACE = Set.of(
        "int feed(int,int,int,int,int)", "int end(int)", "int cut()", "int place()", "int tokens()", "int kind(int)",
        "int which(int)", "int from(int)", "int length(int)", "int line(int)", "int worth(int)", "int codes(int)",
        "int code(int,int)", "boolean same(int,int)");
    private static final String[] OUTSIDE = {
        "throw", "throws", "try", "catch", "finally", "synchronized", "assert", "import", "package", "native", "volatile",
        "transient", "System", "Object",
    };

    private static final Path MAIN = Path.of("src/main/java");
    private static final Set<Class<?>> CONSTANTS = Set.of(int.class, long.class, boolean.class, char.class, String.class,
        int[].class, long[].class, char[].class, byte[].class);
    private static final Set<String> LIBRARY = Set.of("Math", "Integer", "Long", "Arrays");
    private static final int LINES_OF_A_METHOD = 60;
    private static final int ROOM = 7_300_000;

    private static int wrong = 0;

    public static void main(String[] args) throws IOException, IllegalAccessException {
        String source = Files.readString(MAIN.resolve("TokenRows.java"), StandardCharsets.ISO_8859_1);
        String code = source.replaceAll("(?s)/\\*.*?\\*/|//[^\\n]*", " ");
        oneFile(source);
        face();
        fields();
        words(code);
        library(code);
        methodsAreShort(source);
        madeInTheConstructorAlone(code);
        rowsAreUsedAgain();
        System.out.println(wrong == 0 ? "the face and the language are as due" : wrong + " things are not as due");
        if (wrong != 0) {
            System.exit(1);
        }
    }

    private static void face() {
        Class<?> c = TokenRows.class;
        hold("the class is public and final", Modifier.isPublic(c.getModifiers()) && Modifier.isFinal(c.getModifiers()));
        Constructor<?>[] constructors = c.getDeclaredConstructors();
        for (Class<?> inside : c.getDeclaredClasses()) {
            hold(inside.getName() + " is static", Modifier.isStatic(inside.getModifiers()));
        }
        hold("one public constructor without parameters", constructors.length == 1
            && Modifier.isPublic(constructors[0].getModifiers()) && constructors[0].getParameterCount() == 0);
        Set<String> seen = new TreeSet<>();
        Set<String> publicNames = new TreeSet<>();
        for (Method m : c.getDeclaredMethods()) {
            if (Modifier.isPublic(m.getModifiers())) {
                seen.add(told(m));
                publicNames.add(m.getName());
                hold(m.getName() + " is no static method", !Modifier.isStatic(m.getModifiers()));
            } else {
                hold(m.getName() + " is private", Modifier.isPrivate(m.getModifiers()));
            }
            hold(m.getName() + " takes at most seven parameters", m.getParameterCount() <= 7);
        }
        hold("the public methods are the document's, not " + seen, seen.equals(FACE));
        for (Method m : c.getDeclaredMethods()) {
            hold(m.getName() + " is private and public",
                Modifier.isPublic(m.getModifiers()) || !publicNames.contains(m.getName()));
        }
    }

    private static String told(Method m) {
        StringBuilder text = new StringBuilder(m.getReturnType().getName()).append(' ').append(m.getName()).append('(');
        for (Class<?> parameter : m.getParameterTypes()) {
            text.append(text.charAt(text.length() - 1) == '(' ? "" : ",").append(parameter.getName());
        }
        return text.append(')').toString();
    }

    private static void fields() {
        int changing = 0;
        for (Field f : TokenRows.class.getDeclaredFields()) {
            boolean isStatic = Modifier.isStatic(f.getModifiers());
            hold(f.getName() + " is private", Modifier.isPrivate(f.getModifiers()));
            hold(f.getName() + " is final if it is static", !isStatic || Modifier.isFinal(f.getModifiers()));
            hold(f.getName() + " is a constant if it is static", !isStatic || CONSTANTS.contains(f.getType()));
            changing += isStatic ? 0 : 1;
        }
        hold("at most twenty fields beside constants", changing <= 20);
    }

    private static void words(String code) {
        for (String word : OUTSIDE) {
            hold("no " + word, !holdsWord(code, word));
        }
        hold("no lambda and no method reference", !code.contains("->") && !code.contains("::"));
    }

    private static boolean holdsWord(String code, String word) {
        return Pattern.compile("\\b" + word + "\\b").matcher(code).find();
    }

    // "The program is one file .. without a package line": what stands beside it would be left behind.
    private static void oneFile(String source) throws IOException {
        try (Stream<Path> files = Files.walk(MAIN)) {
            hold("one file", files.filter(Files::isRegularFile).count() == 1);
        }
        hold("plain characters alone", source.chars().allMatch(c -> c == '\n' || c >= 32 && c <= 126));
    }

    private static void library(String code) {
        Matcher call = Pattern.compile("\\b([A-Z][A-Za-z]*[a-z][A-Za-z]*)\\s*\\.\\s*(\\w+)").matcher(code);
        while (call.find()) {
            hold(call.group() + " is in the library", LIBRARY.contains(call.group(1)) && !call.group(2).endsWith("Exact"));
        }
    }

    private static void methodsAreShort(String source) {
        int lines = 0;
        for (String line : source.split("\n")) {
            lines = line.matches(" {4}\\S.*\\{") ? 0 : lines + 1;
            hold("a method's lines, up to " + line, !line.equals("    }") || lines < LINES_OF_A_METHOD);
        }
    }

    private static void madeInTheConstructorAlone(String code) {
        int from = code.indexOf("public TokenRows() {");
        int to = code.indexOf("\n    }", from);
        hold("there is a constructor", from >= 0 && to > from);
        hold("nothing is made behind the constructor", !holdsWord(code.substring(Math.max(to, 0)), "new"));
        hold("nothing is made before the constructor", !holdsWord(code.substring(0, Math.max(from, 0)), "new"));
    }

    private static void rowsAreUsedAgain() throws IllegalAccessException {
        TokenRows x = new TokenRows();
        Set<Object> before = rowsOf(x);
        for (int k = 0; k < 128; k++) {
            x.feed(0x61202261, 0x5c6e2220, 0x3b203120, 0x27612720, 0x0a2b3d20);
            x.cut();
            x.code(1, 1);
            x.same(0, k);
        }
        Set<Object> after = rowsOf(x);
        hold("the rows stay the same", before.size() == after.size() && before.containsAll(after));
        int elements = 0;
        for (Object row : after) {
            elements += Array.getLength(row);
        }
        hold("an object's rows take " + elements + " of the room", elements < ROOM / 10);
    }

    private static Set<Object> rowsOf(TokenRows x) throws IllegalAccessException {
        Set<Object> rows = Collections.newSetFromMap(new IdentityHashMap<>());
        for (Field f : TokenRows.class.getDeclaredFields()) {
            if (!Modifier.isStatic(f.getModifiers()) && f.getType().isArray()) {
                f.setAccessible(true);
                rows.add(f.get(x));
            }
        }
        return rows;
    }

    private static void hold(String what, boolean holds) {
        if (!holds) {
            wrong++;
            System.out.println("does not hold: " + what);
        }
    }
}
