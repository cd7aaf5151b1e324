import java.io.IOException;
import java.lang.reflect.Constructor;
import java.lang.reflect.Field;
import java.lang.reflect.Method;
import java.lang.reflect.Modifier;
import java.nio.charset.StandardCharsets;
import java.nio.file.Files;
import java.nio.file.Path;
import java.util.ArrayList;
import java.util.List;
import java.util.Set;
import java.util.TreeSet;
import java.util.regex.Matcher;
import java.util.regex.Pattern;

/** The public face is the document's and no more, and the source keeps to the rules that can be looked for. */
public final class FaceTest {
    private static final Check CHECK = new Check("FaceTest");
    private static final Path DOCUMENT = Path.of("../shared/DOC.md");
    // the document's lines of methods, without the names of their parameters
    private static final Set<String> FACE = new TreeSet<>();

    public static void main(String[] args) throws IOException {
        readFace();
        members();
        nested();
        source();
        CHECK.finish();
    }

    private static void readFace() throws IOException {
        String text = Files.readString(DOCUMENT, StandardCharsets.UTF_8);
        Matcher method = Pattern.compile("(?m)^    public (int \\w+)\\((.*)\\);$").matcher(text);
        while (method.find()) {
            FACE.add(method.group(1) + "(" + method.group(2).replaceAll(" \\w+(?=,|$)", "") + ")");
        }
        // of 60 promises one is the constructor's
        CHECK.due("methods of the document", FACE.size(), 59);
    }

    private static String lineOf(Method m) {
        List<String> types = new ArrayList<>();
        for (Class<?> type : m.getParameterTypes()) {
            types.add(type.getName());
        }
        return m.getReturnType().getName() + " " + m.getName() + "(" + String.join(", ", types) + ")";
    }

    private static boolean isOfTheFace(String name) {
        return FACE.stream().anyMatch(line -> line.startsWith("int " + name + "("));
    }

    private static void members() {
        Class<?> c = LipsAndSlides.class;
        CHECK.holds("public and final", Modifier.isPublic(c.getModifiers()) && Modifier.isFinal(c.getModifiers()));
        Set<String> found = new TreeSet<>();
        for (Method m : c.getDeclaredMethods()) {
            if (m.isSynthetic()) {
                continue;
            }
            if (Modifier.isPrivate(m.getModifiers())) {
                CHECK.holds("private " + m.getName() + " is not of the face", !isOfTheFace(m.getName()));
            } else {
                found.add(lineOf(m));
                CHECK.holds(m.getName() + " is public, of an object", Modifier.isPublic(m.getModifiers())
                        && !Modifier.isStatic(m.getModifiers()));
            }
        }
        CHECK.holds("the methods are the document's: " + found, found.equals(FACE));
        for (Field f : c.getDeclaredFields()) {
            boolean none = f.getName().equals("NONE");
            CHECK.holds("field " + f.getName(), none ? Modifier.isPublic(f.getModifiers()) : Modifier.isPrivate(f.getModifiers()));
            if (Modifier.isStatic(f.getModifiers())) {
                CHECK.holds("static " + f.getName() + " is final", Modifier.isFinal(f.getModifiers()));
            }
        }
        int makers = 0;
        for (Constructor<?> maker : c.getDeclaredConstructors()) {
            makers++;
            CHECK.holds("the constructor", Modifier.isPublic(maker.getModifiers()) && maker.getParameterCount() == 0);
        }
        CHECK.due("constructors", makers, 1);
    }

    private static void nested() {
        Class<?>[] inside = LipsAndSlides.class.getDeclaredClasses();
        CHECK.holds("some twelve classes", inside.length < 12);
        for (Class<?> c : inside) {
            CHECK.holds(c.getName() + " is private and static", Modifier.isPrivate(c.getModifiers())
                    && Modifier.isStatic(c.getModifiers()));
            int fields = 0;
            for (Field f : c.getDeclaredFields()) {
                if (Modifier.isStatic(f.getModifiers())) {
                    CHECK.holds(c.getName() + "." + f.getName() + " is final", Modifier.isFinal(f.getModifiers()));
                } else {
                    fields++;
                }
            }
            CHECK.holds(c.getName() + " has some twenty fields", fields <= 20);
            for (Method m : c.getDeclaredMethods()) {
                CHECK.holds(c.getName() + "." + m.getName() + " is not of the face", !isOfTheFace(m.getName()));
                CHECK.holds(c.getName() + "." + m.getName() + " takes seven at most", m.getParameterCount() <= 7);
            }
        }
    }

    private static void source() throws IOException {
        String text = Files.readString(Path.of("src/main/java/LipsAndSlides.java"), StandardCharsets.ISO_8859_1);
        // comments may use any word
        String code = text.replaceAll("(?s)/\\*.*?\\*/", "").replaceAll("//[^\n]*", "");
        String[] forbidden = {"throw", "try", "catch", "synchronized", "assert", "import", "package", "native", "volatile",
            "transient", "finally", "abstract", "protected", "double", "float", "Exact", "Random", "Thread", "Object", "null",
            "nanoTime", "currentTimeMillis", "hashCode", "toString", "instanceof", "static {"};
        for (String word : forbidden) {
            String pattern = word.endsWith("{") || word.equals("Exact") ? Pattern.quote(word) : "\\b" + word + "\\b";
            CHECK.holds("no " + word, !Pattern.compile(pattern).matcher(code).find());
        }
        CHECK.holds("no lambda or method reference", !code.contains("->") && !code.contains("::"));
        for (int i = 0; i < text.length(); i++) {
            if (text.charAt(i) > 126 || text.charAt(i) < 32 && text.charAt(i) != '\n') {
                CHECK.holds("a sign outside 32 .. 126 at " + i, false);
            }
        }
        Matcher library = Pattern.compile("\\b(System|Arrays|Math|Integer|Long)\\.(\\w+)")
                .matcher(code);
        Set<String> allowed = Set.of("System.arraycopy", "Math.max", "Math.min", "Math.abs", "Integer.bitCount", "Long.bitCount");
        while (library.find()) {
            CHECK.holds("library " + library.group(), allowed.contains(library.group()));
        }
        longestMethod(code);
    }

    /** Methods stand at one depth of braces, by the file's own indentation. */
    private static void longestMethod(String code) {
        int begin = -1;
        String[] lines = code.split("\n");
        for (int i = 0; i < lines.length; i++) {
            boolean opens = lines[i].matches(" {4}( {4})?[a-z][\\w\\[\\] ]*\\(.*\\{");
            if (opens) {
                begin = i;
            }
            if (begin >= 0 && lines[i].matches(" {4}( {4})?\\}")) {
                CHECK.holds("short: " + lines[begin].trim(), i - begin < 60);
                begin = -1;
            }
        }
    }
}
