import java.io.IOException;
import java.lang.reflect.Constructor;
import java.lang.reflect.Field;
import java.lang.reflect.Method;
import java.lang.reflect.Modifier;
import java.nio.charset.StandardCharsets;
import java.nio.file.Files;
import java.nio.file.Path;
import java.util.Set;
import java.util.TreeSet;

/** The face is the document's and no more, and the source keeps to what can be seen of LANGUAGE.md. */
public final class LanguageTests {
    private static final Set<String> FACE = Set.of(
        "int feed(int,int,int,int,int)", "int end(int)", "int cut()", "int place()", "int tokens()", "int kind(int)",
        "int which(int)", "int from(int)", "int length(int)", "int line(int)", "int worth(int)", "int codes(int)",
        "int code(int,int)", "boolean same(int,int)");
    private static final String[] OUTSIDE = {
        "throw", "throws", "try", "catch", "finally", "synchronized", "assert", "import", "package", "native", "volatile",
        "transient", "Exact", "System", "Object",
    };

    private static int wrong = 0;

    public static void main(String[] args) throws IOException {
        face();
        fields();
        words();
        System.out.println(wrong == 0 ? "the face and the language are as due" : wrong + " things are not as due");
        if (wrong != 0) {
            System.exit(1);
        }
    }

    private static void face() {
        Class<?> c = TokenRows.class;
        hold("the class is public and final", Modifier.isPublic(c.getModifiers()) && Modifier.isFinal(c.getModifiers()));
        Constructor<?>[] constructors = c.getDeclaredConstructors();
        hold("one public constructor without parameters", constructors.length == 1
            && Modifier.isPublic(constructors[0].getModifiers()) && constructors[0].getParameterCount() == 0);
        Set<String> seen = new TreeSet<>();
        Set<String> publicNames = new TreeSet<>();
        for (Method m : c.getDeclaredMethods()) {
            if (Modifier.isPublic(m.getModifiers())) {
                seen.add(told(m));
                publicNames.add(m.getName());
                hold(m.getName() + " is no static method", !Modifier.isStatic(m.getModifiers()));
            } else {
                hold(m.getName() + " is private", Modifier.isPrivate(m.getModifiers()));
            }
            hold(m.getName() + " takes at most seven parameters", m.getParameterCount() <= 7);
        }
        hold("the public methods are the document's, not " + seen, seen.equals(FACE));
        for (Method m : c.getDeclaredMethods()) {
            hold(m.getName() + " is private and public",
                Modifier.isPublic(m.getModifiers()) || !publicNames.contains(m.getName()));
        }
    }

    private static String told(Method m) {
        StringBuilder text = new StringBuilder(m.getReturnType().getName()).append(' ').append(m.getName()).append('(');
        for (Class<?> parameter : m.getParameterTypes()) {
            text.append(text.charAt(text.length() - 1) == '(' ? "" : ",").append(parameter.getName());
        }
        return text.append(')').toString();
    }

    private static void fields() {
        int changing = 0;
        for (Field f : TokenRows.class.getDeclaredFields()) {
            boolean isStatic = Modifier.isStatic(f.getModifiers());
            hold(f.getName() + " is private", Modifier.isPrivate(f.getModifiers()));
            hold(f.getName() + " is final if it is static", !isStatic || Modifier.isFinal(f.getModifiers()));
            changing += isStatic ? 0 : 1;
        }
        hold("at most twenty fields beside constants", changing <= 20);
    }

    private static void words() throws IOException {
        String source = Files.readString(Path.of("src/main/java/TokenRows.java"), StandardCharsets.ISO_8859_1)
            .replaceAll("(?s)/\\*.*?\\*/|//[^\\n]*", " ");
        for (String word : OUTSIDE) {
            hold("no " + word, !source.matches("(?s).*\\b" + word + "\\b.*"));
        }
        hold("no lambda and no method reference", !source.contains("->") && !source.contains("::"));
    }

    private static void hold(String what, boolean holds) {
        if (!holds) {
            wrong++;
            System.out.println("does not hold: " + what);
        }
    }
}
