import com.sun.management.ThreadMXBean;
import java.lang.management.ManagementFactory;
import java.lang.reflect.Constructor;
import java.lang.reflect.Field;
import java.lang.reflect.Method;
import java.lang.reflect.Modifier;
import java.nio.file.Files;
import java.nio.file.Path;
import java.util.ArrayList;
import java.util.Arrays;
import java.util.List;
import java.util.TreeSet;
import java.util.regex.Matcher;
import java.util.regex.Pattern;

/** The rules of LANGUAGE.md that can be seen in the source, in the class, or in what calls make. */
public final class LanguageTest {
    private static final Path SOURCE = Path.of("src/main/java/BittenStick.java");
    private static final Path DOCUMENT = Path.of("../shared/DOC.md");
    private static final String FACE = "ask back behind climb comes copy count digest farthest fault flight forget get"
            + " goose high lakes laugh lay learn lose mile pair passenger practice read seen sheet sores type undo"
            + " wipe write";
    private static final Check check = new Check("LanguageTest");

    public static void main(String[] args) throws Exception {
        String source = Files.readString(SOURCE);
        words(source);
        methodLengths(source);
        library(source);
        face();
        faceOfTheDocument();
        classesInside();
        objectsMade();
        check.end();
    }

    private static String withoutComments(String source) {
        return source.replaceAll("(?s)/\\*.*?\\*/", "").replaceAll("//[^\n]*", "");
    }

    private static void words(String source) {
        String code = withoutComments(source);
        String[] banned = {"throw", "throws", "try", "catch", "finally", "synchronized", "assert", "import", "package",
            "double", "float", "Object", "Thread", "Random", "File", "System\\.(?!arraycopy)\\w+", "equals", "hashCode",
            "toString", "var", "volatile", "native", "protected", "\\w+Exact"};
        for (String word : banned) {
            Matcher m = Pattern.compile("\\b" + word + "\\b").matcher(code);
            check.holds("no " + word, !m.find());
        }
        check.holds("no lambda", !code.contains("->"));
        check.holds("no method reference", !code.contains("::"));
        check.holds("signs 1 to 127", source.chars().allMatch(c -> c >= 1 && c <= 127));
        Matcher statics = Pattern.compile("\\bstatic\\s+(?!final|class|int \\w+\\(|boolean \\w+\\()").matcher(code);
        check.holds("static fields are final", !statics.find());
    }

    /** Rule 4 lists functions of Integer, Long and Math, and none of their constants. */
    private static void library(String source) {
        Matcher used = Pattern.compile("\\b([A-Z][a-z]\\w*)\\.(\\w+)\\b(\\(?)").matcher(withoutComments(source));
        while (used.find()) {
            String name = used.group(1) + "." + used.group(2);
            boolean listed = name.equals("System.arraycopy") || name.matches("(Integer|Long|Math)\\.[a-z]\\w*");
            check.holds("in the library: " + used.group(), listed && used.group(3).equals("("));
        }
    }

    private static void methodLengths(String source) {
        int opened = 0;
        String[] lines = source.split("\n");
        for (int i = 0; i < lines.length; i++) {
            if (lines[i].matches("( {4}| {8})(private |public |abstract |static )*\\w+(\\[\\])? ?\\w*\\(.*\\{")) {
                opened = i;
            }
            if (lines[i].matches("( {4}| {8})\\}") && opened > 0) {
                check.holds("a short method at line " + (opened + 1), i - opened < 60);
            }
            check.holds("a short line " + (i + 1), lines[i].length() <= 120);
        }
    }

    private static void face() {
        Class<?> type = BittenStick.class;
        check.holds("public and final", type.getModifiers() == (Modifier.PUBLIC | Modifier.FINAL));
        TreeSet<String> names = new TreeSet<>();
        for (Method m : type.getDeclaredMethods()) {
            if (Modifier.isPublic(m.getModifiers())) {
                check.holds("once " + m.getName(), names.add(m.getName()));
                Class<?> answer = m.getName().equals("laugh") || m.getName().equals("digest") ? long.class : int.class;
                check.holds("answer of " + m.getName(), m.getReturnType() == answer);
            }
        }
        check.holds("the methods of the face", String.join(" ", names).equals(FACE));
        for (Method m : type.getDeclaredMethods()) {
            boolean hidden = Modifier.isPrivate(m.getModifiers());
            check.holds("public or private: " + m.getName(), hidden || Modifier.isPublic(m.getModifiers()));
            check.holds("a name of its own: " + m.getName(), !hidden || !names.contains(m.getName()));
        }
        TreeSet<String> constants = new TreeSet<>();
        for (Field f : type.getDeclaredFields()) {
            if (Modifier.isPublic(f.getModifiers())) {
                constants.add(f.getName());
                check.holds("a constant " + f.getName(), f.getType() == int.class && Modifier.isFinal(f.getModifiers())
                        && Modifier.isStatic(f.getModifiers()));
            } else {
                check.holds("private " + f.getName(), Modifier.isPrivate(f.getModifiers()));
            }
        }
        check.holds("the constants of the face", String.join(" ", constants).equals("BAD FULL NONE NOT"));
        Constructor<?>[] constructors = type.getDeclaredConstructors();
        check.holds("one constructor", constructors.length == 1 && constructors[0].getParameterCount() == 0
                && Modifier.isPublic(constructors[0].getModifiers()));
    }

    private static void faceOfTheDocument() throws Exception {
        String document = Files.readString(DOCUMENT);
        int from = document.indexOf("public final class BittenStick {");
        String told = document.substring(from, document.indexOf("}", from));
        Matcher m = Pattern.compile("public (int|long) (\\w+)\\(([^)]*)\\);").matcher(told);
        int number = 0;
        while (m.find()) {
            number++;
            String[] parameters = m.group(3).isEmpty() ? new String[0] : m.group(3).split(", ");
            Class<?>[] types = new Class<?>[parameters.length];
            for (int i = 0; i < types.length; i++) {
                types[i] = parameters[i].startsWith("int ") ? int.class : null;
            }
            Method has = BittenStick.class.getMethod(m.group(2), types);
            check.holds("as the document tells: " + m.group(), has.getReturnType().getName().equals(m.group(1)));
        }
        check.due("methods that the document tells", number, FACE.split(" ").length);
    }

    private static void classesInside() {
        List<Class<?>> all = new ArrayList<>(Arrays.asList(BittenStick.class.getDeclaredClasses()));
        for (Class<?> c : all) {
            check.holds("static " + c.getName(), Modifier.isStatic(c.getModifiers()));
            check.holds("hidden " + c.getName(), !Modifier.isPublic(c.getModifiers())
                    && !Modifier.isProtected(c.getModifiers()));
            for (Method m : c.getDeclaredMethods()) {
                check.holds("not a name of the face: " + m.getName(), !(" " + FACE + " ").contains(" " + m.getName() + " "));
            }
        }
        all.add(BittenStick.class);
        check.holds("at most twelve classes", all.size() <= 12);
        for (Class<?> c : all) {
            int fields = 0;
            for (Field f : c.getDeclaredFields()) {
                boolean constant = Modifier.isStatic(f.getModifiers());
                check.holds("final " + f.getName(), !constant || Modifier.isFinal(f.getModifiers()));
                fields += constant ? 0 : 1;
            }
            check.holds("at most twenty fields in " + c.getName(), fields <= 20);
            for (Method m : c.getDeclaredMethods()) {
                check.holds("at most seven parameters of " + m.getName(), m.getParameterCount() <= 7);
            }
        }
    }

    /** All calls of a run live in one room, so only the constructor makes objects. */
    private static void objectsMade() {
        ThreadMXBean bean = (ThreadMXBean) ManagementFactory.getThreadMXBean();
        long thread = Thread.currentThread().getId();
        callAll(Check.stick("abcdefoiwabcd", "ta91;pb92;sc93", "90;91;92"));
        BittenStick x = Check.stick("abcdefoiwabcd", "ta91;pb92;sc93", "90;91;92");
        long before = bean.getThreadAllocatedBytes(thread);
        for (int i = 0; i < 20; i++) {
            callAll(x);
        }
        long made = bean.getThreadAllocatedBytes(thread) - before;
        check.holds("calls make no objects, but made bytes: " + made, made < 2000);
        before = bean.getThreadAllocatedBytes(thread);
        new BittenStick();
        made = bean.getThreadAllocatedBytes(thread) - before;
        check.holds("a new object is small, but took bytes: " + made, made < 8000);
    }

    private static void callAll(BittenStick x) {
        for (int s = 0; s < 4; s++) {
            x.sheet(s, s % 3, 60);
            x.lay(s, s % 3, 1, 1);
            x.lay(s, s % 3, 3, 5);
            x.get(s, 0, 70);
        }
        x.read(0);
        x.flight(0, 0, 1, 5);
        x.flight(1, 2, 1, 7);
        x.copy(0, 0, 3, 5, 9);
        x.write(0, 0, 1);
        x.seen(0, x.comes(0, 0));
        x.learn(3);
        x.digest();
        x.laugh(3, 0, 0);
        x.lakes(5, 99, 0);
        x.lose(2);
        x.forget();
        x.back();
        x.undo(0);
        x.type(0, 'a');
    }
}
