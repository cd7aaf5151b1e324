import java.io.IOException;
import java.lang.reflect.Constructor;
import java.lang.reflect.Field;
import java.lang.reflect.Method;
import java.lang.reflect.Modifier;
import java.nio.charset.StandardCharsets;
import java.nio.file.Files;
import java.nio.file.Path;
import java.util.Set;
import java.util.TreeSet;

/** The public face is the document's and no more, and the source keeps to the rules that can be looked for. */
public final class FaceTest {
    private static final Check CHECK = new Check("FaceTest");
    private static final String FACE = "feed/5 end/1 desk/0 fault/1 brass/2 player/2 tone/3 flat/2 off/4 drawnOut/4 ways/2 way/4 "
            + "range/2 common/2 move/3 plays/2 cost/2 sour/2 chosen/4 slurs/3 stuck/2 quick/2 cents/2 many/2 moved/2 put/3 "
            + "shift/2 breaths/2 marks/2 choked/2 load/3 tired/2 spared/2 doubles/2 leaves/3 line/1 best/1 shared/0 given/1 "
            + "judge/3 told/3 heard/1 cracks/3 cracked/3 clean/4 train/3 tune/2 pitch/3 slur/3 beats/1 phrase/2 pitches/1 "
            + "count/1 tones/1 keep/1 back/1 row/3 write/3 paste/5";

    public static void main(String[] args) throws IOException {
        members();
        nested();
        source();
        CHECK.finish();
    }

    private static Set<String> faceNames() {
        Set<String> names = new TreeSet<>();
        for (String entry : FACE.split(" ")) {
            names.add(entry.substring(0, entry.indexOf('/')));
        }
        return names;
    }

    private static void members() {
        Class<?> c = LipsAndSlides.class;
        CHECK.holds("public and final", Modifier.isPublic(c.getModifiers()) && Modifier.isFinal(c.getModifiers()));
        Set<String> found = new TreeSet<>();
        for (Method m : c.getDeclaredMethods()) {
            if (m.isSynthetic()) {
                continue;
            }
            if (!Modifier.isPrivate(m.getModifiers())) {
                found.add(m.getName() + "/" + m.getParameterCount());
                CHECK.holds(m.getName() + " is public, of an int", Modifier.isPublic(m.getModifiers())
                        && !Modifier.isStatic(m.getModifiers()) && m.getReturnType() == int.class);
                for (int i = 0; i < m.getParameterCount(); i++) {
                    boolean wide = m.getName().equals("write") && i == 2;
                    CHECK.holds(m.getName() + " parameter " + i, m.getParameterTypes()[i] == (wide ? long.class : int.class));
                }
            } else {
                CHECK.holds("private " + m.getName() + " is not of the face", !faceNames().contains(m.getName()));
            }
        }
        CHECK.holds("the methods are the document's", found.equals(new TreeSet<>(Set.of(FACE.split(" ")))));
        for (Field f : c.getDeclaredFields()) {
            boolean none = f.getName().equals("NONE");
            CHECK.holds("field " + f.getName(), none ? Modifier.isPublic(f.getModifiers()) : Modifier.isPrivate(f.getModifiers()));
            if (Modifier.isStatic(f.getModifiers())) {
                CHECK.holds("static " + f.getName() + " is final", Modifier.isFinal(f.getModifiers()));
            }
        }
        int makers = 0;
        for (Constructor<?> maker : c.getDeclaredConstructors()) {
            makers++;
            CHECK.holds("the constructor", Modifier.isPublic(maker.getModifiers()) && maker.getParameterCount() == 0);
        }
        CHECK.due("constructors", makers, 1);
    }

    private static void nested() {
        Class<?>[] inside = LipsAndSlides.class.getDeclaredClasses();
        CHECK.holds("some twelve classes", inside.length < 12);
        for (Class<?> c : inside) {
            CHECK.holds(c.getName() + " is private and static", Modifier.isPrivate(c.getModifiers())
                    && Modifier.isStatic(c.getModifiers()));
            int fields = 0;
            for (Field f : c.getDeclaredFields()) {
                if (Modifier.isStatic(f.getModifiers())) {
                    CHECK.holds(c.getName() + "." + f.getName() + " is final", Modifier.isFinal(f.getModifiers()));
                } else {
                    fields++;
                }
            }
            CHECK.holds(c.getName() + " has some twenty fields", fields <= 20);
            for (Method m : c.getDeclaredMethods()) {
                CHECK.holds(c.getName() + "." + m.getName() + " is not of the face", !faceNames().contains(m.getName()));
                CHECK.holds(c.getName() + "." + m.getName() + " takes seven at most", m.getParameterCount() <= 7);
            }
        }
    }

    private static void source() throws IOException {
        String text = Files.readString(Path.of("src/main/java/LipsAndSlides.java"), StandardCharsets.ISO_8859_1);
        // comments may use any word
        String code = text.replaceAll("(?s)/\\*.*?\\*/", "").replaceAll("//[^\n]*", "");
        String[] forbidden = {"throw", "try", "catch", "synchronized", "assert", "import", "package", "native", "volatile",
            "transient", "finally", "abstract", "protected", "double", "float", "Exact", "Random", "Thread", "Object", "null",
            "nanoTime", "currentTimeMillis", "hashCode", "toString", "instanceof", "static {"};
        for (String word : forbidden) {
            String pattern = word.endsWith("{") || word.equals("Exact") ? java.util.regex.Pattern.quote(word) : "\\b" + word + "\\b";
            CHECK.holds("no " + word, !java.util.regex.Pattern.compile(pattern).matcher(code).find());
        }
        CHECK.holds("no lambda or method reference", !code.contains("->") && !code.contains("::"));
        for (int i = 0; i < text.length(); i++) {
            if (text.charAt(i) > 126 || text.charAt(i) < 32 && text.charAt(i) != '\n') {
                CHECK.holds("a sign outside 32 .. 126 at " + i, false);
            }
        }
        java.util.regex.Matcher library = java.util.regex.Pattern.compile("\\b(System|Arrays|Math|Integer|Long)\\.(\\w+)")
                .matcher(code);
        Set<String> allowed = Set.of("System.arraycopy", "Math.max", "Math.min", "Math.abs", "Integer.bitCount", "Long.bitCount");
        while (library.find()) {
            CHECK.holds("library " + library.group(), allowed.contains(library.group()));
        }
        longestMethod(code);
    }

    /** Methods stand at one depth of braces, by the file's own indentation. */
    private static void longestMethod(String code) {
        int begin = -1;
        String[] lines = code.split("\n");
        for (int i = 0; i < lines.length; i++) {
            boolean opens = lines[i].matches(" {4}( {4})?[a-z][\\w\\[\\] ]*\\(.*\\{");
            if (opens) {
                begin = i;
            }
            if (begin >= 0 && lines[i].matches(" {4}( {4})?\\}")) {
                CHECK.holds("short: " + lines[begin].trim(), i - begin < 60);
                begin = -1;
            }
        }
    }
}
