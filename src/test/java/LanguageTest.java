import java.lang.reflect.Field;
import java.lang.reflect.Method;
import java.lang.reflect.Modifier;
import java.nio.charset.StandardCharsets;
import java.nio.file.Files;
import java.nio.file.Path;
import java.util.HashSet;
import java.util.Set;
import java.util.regex.Matcher;
import java.util.regex.Pattern;

/** Those rules of ../shared/LANGUAGE.md that can be seen from the file and from its classes. */
public final class LanguageTest {
    private static final String SOURCE = "src/main/java/ForgottenFeast.java";

    public static void main(String[] args) throws Exception {
        Check c = new Check("LanguageTest");
        String text = Files.readString(Path.of(SOURCE), StandardCharsets.ISO_8859_1);
        c.due("signs beyond 127", text.chars().filter(b -> b > 126 || b < 32 && b != 10).count(), 0);
        words(c, bare(text));
        face(c);
        classes(c);
        c.close();
    }

    /** Without comments and texts. */
    private static String bare(String text) {
        return text.replaceAll("(?s)/\\*.*?\\*/", " ").replaceAll("//[^\n]*", " ")
            .replaceAll("\"(\\\\.|[^\"\\\\])*\"", "TEXT").replaceAll("'(\\\\.|[^'\\\\])'", "SIGN");
    }

    private static void words(Check c, String code) {
        for (String word : new String[] {"throw", "throws", "try", "catch", "finally", "synchronized", "assert", "package",
            "protected", "var", "yield", "Object", "System.out", "Thread", "Random", "Exact", "HashMap", "hashCode", "toString",
            "double", "float", "lambda", "volatile", "transient", "native"}) {
            c.due("word " + word, count(code, "\\b" + word.replace(".", "\\.") + "\\b"), 0);
        }
        c.due("lambdas", count(code, "->"), 0);
        c.due("method references", count(code, "::"), 0);
        c.due("texts joined by +", count(code, "TEXT\\s*\\+|\\+\\s*TEXT"), 0);
        c.due("imports", count(code, "\\bimport\\b"), count(code, "import java\\.util\\.Arrays;"));
        c.due("static initialisers", count(code, "static\\s*\\{"), 0);
        c.due("static state", count(code, "static (?!final)[a-zA-Z\\[\\]]+ \\w+\\s*(=|;)"), 0);
        c.due("endless loops", count(code, "while\\s*\\(true\\)|for\\s*\\(;;\\)"), 0);
        String library = "(Math|Integer|Arrays|System)\\.(max|min|floorDiv|bitCount|numberOfTrailingZeros|fill|arraycopy)\\(";
        c.due("calls of the library", count(code, "\\b(Math|Integer|Long|Arrays|System|String)\\.\\w+\\("), count(code, library));
    }

    private static int count(String code, String pattern) {
        Matcher m = Pattern.compile(pattern).matcher(code);
        int n = 0;
        while (m.find()) {
            n++;
        }
        return n;
    }

    private static void face(Check c) {
        Class<?> face = ForgottenFeast.class;
        c.due("public final", Modifier.isPublic(face.getModifiers()) && Modifier.isFinal(face.getModifiers()), true);
        Set<String> open = new HashSet<>();
        for (Method m : face.getDeclaredMethods()) {
            if (Modifier.isPublic(m.getModifiers())) {
                open.add(m.getName());
            } else {
                c.due(m.getName() + " is private", Modifier.isPrivate(m.getModifiers()), true);
            }
        }
        c.due("public methods", open.size(), 34);
        for (Class<?> k : all()) {
            for (Method m : k.getDeclaredMethods()) {
                boolean twice = open.contains(m.getName()) && !Modifier.isPublic(m.getModifiers());
                c.due(m.getName() + " bears the name of a public one", twice, false);
                c.due(m.getName() + " takes too many", m.getParameterCount() > 7, false);
            }
        }
        for (Field f : face.getDeclaredFields()) {
            boolean constant = f.getName().equals("NONE") || f.getName().equals("NOTHING");
            c.due(f.getName(), Modifier.isPublic(f.getModifiers()), constant);
            c.due(f.getName(), Modifier.isPrivate(f.getModifiers()), !constant);
        }
        c.due("constructors", face.getConstructors().length, 1);
    }

    private static Class<?>[] all() {
        Class<?>[] inside = ForgottenFeast.class.getDeclaredClasses();
        Class<?>[] all = new Class<?>[inside.length + 1];
        System.arraycopy(inside, 0, all, 1, inside.length);
        all[0] = ForgottenFeast.class;
        return all;
    }

    private static void classes(Check c) {
        c.due("too many classes", all().length > 12, false);
        for (Class<?> k : all()) {
            int fields = 0;
            for (Field f : k.getDeclaredFields()) {
                if (!Modifier.isStatic(f.getModifiers())) {
                    fields++;
                } else {
                    c.due(f.getName() + " is final", Modifier.isFinal(f.getModifiers()), true);
                }
            }
            c.due(k.getName() + " has too many fields", fields > 20, false);
            c.due(k.getName() + " is static", k == ForgottenFeast.class || Modifier.isStatic(k.getModifiers()), true);
        }
    }
}
