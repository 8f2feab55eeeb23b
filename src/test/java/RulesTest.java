import java.io.IOException;
import java.lang.reflect.Field;
import java.lang.reflect.Method;
import java.lang.reflect.Modifier;
import java.nio.charset.StandardCharsets;
import java.nio.file.Files;
import java.nio.file.Paths;
import java.util.ArrayList;
import java.util.Arrays;
import java.util.List;
import java.util.TreeSet;
import java.util.regex.Matcher;
import java.util.regex.Pattern;

/** The face of the document, and what of ../shared/LANGUAGE.md can be seen from outside: members,
 * types of fields, exceptions, words of the source, the length of methods. */
public final class RulesTest {
    private static final String[] FACE = {
        "public boolean TemplateHouse.add(int,int)",
        "public boolean TemplateHouse.clear()",
        "public boolean TemplateHouse.entry(int,int)",
        "public boolean TemplateHouse.file(int)",
        "public boolean TemplateHouse.property(int,int,int)",
        "public boolean TemplateHouse.stop()",
        "public boolean TemplateHouse.width(int)",
        "public int TemplateHouse.attribute(int)",
        "public int TemplateHouse.bean()",
        "public int TemplateHouse.byteOf(int)",
        "public int TemplateHouse.end(int)",
        "public int TemplateHouse.error(int,int)",
        "public int TemplateHouse.fault(int)",
        "public int TemplateHouse.list()",
        "public int TemplateHouse.load(int) throws java.lang.IllegalArgumentException",
        "public int TemplateHouse.look(int)",
        "public int TemplateHouse.looked(int,int)",
        "public int TemplateHouse.map()",
        "public int TemplateHouse.number(long)",
        "public int TemplateHouse.run(int) throws java.lang.IllegalArgumentException,java.lang.IllegalStateException",
        "public int TemplateHouse.truth(boolean)",
        "public int TemplateHouse.word()",
        "public void TemplateHouse.begin() throws java.lang.IllegalStateException,java.util.NoSuchElementException",
        "public void TemplateHouse.feed(int,int,int,int,int)"};
    private static final String THROWN = "IllegalStateException|IllegalArgumentException|IndexOutOfBoundsException"
        + "|ArithmeticException|UnsupportedOperationException|NoSuchElementException|RuntimeException";

    public static void main(String[] args) throws IOException {
        face();
        classes();
        String source = new String(Files.readAllBytes(Paths.get("src/main/java/TemplateHouse.java")), StandardCharsets.ISO_8859_1);
        String bare = bare(source);
        words(bare);
        exceptions(bare);
        library(bare);
        lengths(bare);
        House.over();
    }

    private static void face() {
        TreeSet<String> found = new TreeSet<>();
        for (Method m : TemplateHouse.class.getDeclaredMethods()) {
            if (!Modifier.isPrivate(m.getModifiers()) && !m.isSynthetic()) {
                found.add(m.toGenericString());
            }
        }
        House.due("the methods that are not private", found, new TreeSet<>(Arrays.asList(FACE)));
        House.due("the constructors", Arrays.toString(TemplateHouse.class.getDeclaredConstructors()), "[public TemplateHouse()]");
        House.due("the class", Modifier.toString(TemplateHouse.class.getModifiers()), "public final");
        String fields = "";
        for (Field f : TemplateHouse.class.getDeclaredFields()) {
            fields += Modifier.isPrivate(f.getModifiers()) ? "" : f + ";";
        }
        House.due("the constants", fields, "public static final int TemplateHouse.NONE;");
    }

    private static void classes() {
        List<Class<?>> all = new ArrayList<>(Arrays.asList(TemplateHouse.class.getDeclaredClasses()));
        TreeSet<String> names = new TreeSet<>();
        for (String s : FACE) {
            names.add(s.substring(s.indexOf("House.") + 6, s.indexOf('(')));
        }
        for (Class<?> c : all) {
            int m = c.getModifiers();
            House.due(c + " is static, and not public", Modifier.isStatic(m) && !Modifier.isPublic(m) && !Modifier.isProtected(m), true);
            for (Method method : c.getDeclaredMethods()) {
                House.due(method + " bears no name of the face", names.contains(method.getName()), false);
            }
        }
        all.add(TemplateHouse.class);
        House.due("some twelve classes: " + all.size(), all.size() <= 14, true);
        for (Class<?> c : all) {
            int own = 0;
            for (Field f : c.getDeclaredFields()) {
                own += Modifier.isStatic(f.getModifiers()) ? 0 : 1;
                House.due(f + " is of a type that is allowed", isAllowed(f), true);
            }
            House.due("some twenty fields in " + c + ": " + own, own <= 24, true);
            for (Method method : c.getDeclaredMethods()) {
                House.due("seven parameters at most: " + method, method.getParameterCount() <= 7, true);
            }
        }
    }

    private static boolean isAllowed(Field f) {
        Class<?> t = f.getType();
        boolean isStatic = Modifier.isStatic(f.getModifiers());
        if (isStatic && !Modifier.isFinal(f.getModifiers())) {
            return false;
        }
        int deep = 0;
        while (t.isArray()) {
            t = t.getComponentType();
            deep++;
        }
        boolean isOwn = t.getName().startsWith("TemplateHouse");
        if (isStatic) {
            return deep == 0 ? t.isPrimitive() || t == String.class : deep == 1 && t.isPrimitive();
        }
        return deep < 2 ? t.isPrimitive() || isOwn || t == String.class : deep == 2 && t.isPrimitive();
    }

    /** The source, its comments, texts and signs being blanks. */
    private static String bare(String s) {
        Pattern p = Pattern.compile("/\\*.*?\\*/|//[^\n]*|\"(\\\\.|[^\"\\\\\n])*\"|'(\\\\.|[^'\\\\\n])+'", Pattern.DOTALL);
        Matcher m = p.matcher(s);
        StringBuilder all = new StringBuilder();
        int at = 0;
        boolean isPlain = true;
        while (m.find()) {
            all.append(s, at, m.start());
            for (char c : m.group().toCharArray()) {
                isPlain &= c > 0 && c < 128;
                all.append(c == '\n' ? '\n' : ' ');
            }
            at = m.end();
        }
        House.due("signs 1 to 127", isPlain, true);
        return all.append(s.substring(at)).toString();
    }

    private static int count(String s, String regex) {
        Matcher m = Pattern.compile(regex).matcher(s);
        int n = 0;
        while (m.find()) {
            n++;
        }
        return n;
    }

    private static void words(String s) {
        String[] none = {"->", "::", "\\bsynchronized\\b", "\\bassert\\b", "\\bfinally\\b", "\\bstatic\\s*\\{", "\\bvolatile\\b",
            "\\bnative\\b", "\\bprotected\\b", "\\bThread\\b", "\\bObject\\b", "\\bpackage\\b", "\\bvar\\b", "@\\w+", "\\binstanceof\\b",
            "\\.getMessage\\b", "\\.hashCode\\b", "\\.toString\\b", "\\bNaN\\b", "\\b(double|float)\\b"};
        for (String word : none) {
            House.due("nothing of " + word, count(s, word), 0);
        }
        House.due("public: the class, NONE and the face", count(s, "\\bpublic\\b"), 3 + FACE.length);
    }

    private static void exceptions(String s) {
        House.due("only these are caught", count(s, "\\bcatch\\s*\\("), count(s, "\\bcatch\\s*\\((" + THROWN + ") \\w+\\)"));
        House.due("only these are thrown", count(s, "\\bthrow\\b"), count(s, "\\bthrow new (" + THROWN + ")\\(\\s*\\)"));
        House.due("what can't be told from the machine's is not caught",
            count(s, "\\bcatch\\s*\\((IndexOutOfBounds|Arithmetic|Runtime)Exception"), 0);
        // a method with a try holds no throw
        for (String method : s.split("\n    (    )?(?=[a-z][^\n=;]*\\{\n)")) {
            House.due("try and throw in one method", count(method, "\\btry\\b") > 0 && count(method, "\\bthrow\\b") > 0, false);
        }
    }

    private static void library(String s) {
        House.due("imports", count(s, "\\bimport\\b"), count(s, "import java\\.util\\.(Arrays|NoSuchElementException);"));
        House.due("Arrays.fill alone", count(s, "\\bArrays\\.(?!fill\\()"), 0);
        House.due("Math.max and min alone", count(s, "\\bMath\\.(?!max\\(|min\\()"), 0);
        House.due("no System, no Integer", count(s, "\\b(System|Integer|Long|Character|Byte|Boolean|StringBuilder|List|ArrayList)\\b"), 0);
    }

    /** "Methods stay short (some sixty lines)": from a line with a { at 4 or 8 blanks to its }. */
    private static void lengths(String s) {
        String[] lines = s.split("\n");
        for (int i = 0; i < lines.length; i++) {
            Matcher m = Pattern.compile("(    |        )[a-zA-Z][^=;]*\\) (throws [\\w, ]+)?\\{\\s*").matcher(lines[i]);
            if (m.matches() && !lines[i].trim().startsWith("if") && !lines[i].trim().startsWith("for")) {
                int end = i;
                while (end < lines.length && !lines[end].equals(m.group(1) + "}")) {
                    end++;
                }
                House.due("a short method: " + lines[i].trim() + " " + (end - i), end - i < 62, true);
            }
        }
    }
}
