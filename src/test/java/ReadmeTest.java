import java.lang.reflect.Method;
import java.lang.reflect.Modifier;
import java.nio.file.Files;
import java.nio.file.Path;
import java.util.regex.Matcher;
import java.util.regex.Pattern;

/** README.md: its example answers as it tells, and its table has every call of the face. */
public final class ReadmeTest {
    private static final Path README = Path.of("README.md");
    private static final Pattern TYPED = Pattern.compile("for \\(char b : \"([^\"]*)\"\\.toCharArray\\(\\)\\)"
            + " x\\.type\\((\\d), b\\);.*");
    private static final Pattern ASKED = Pattern.compile("x\\.(\\w+)\\(([^)]*)\\); +// (-?\\d+)( .*)?");
    private static final int TEXTS = 3;
    private static final Check check = new Check("ReadmeTest");

    public static void main(String[] args) throws Exception {
        String page = Files.readString(README);
        int from = page.indexOf("```java\n");
        int to = page.indexOf("```", from + 3);
        check.holds("there is an example", from >= 0 && to > from);
        example(page.substring(from, to).split("\n"));
        table(page);
        check.holds("it tells how to run the tests", page.contains("```sh\n.ci/run\n```"));
        check.end();
    }

    private static void example(String[] lines) throws Exception {
        BittenStick x = new BittenStick();
        int typed = 0;
        for (int i = 2; i < lines.length; i++) {
            Matcher t = TYPED.matcher(lines[i]);
            Matcher a = ASKED.matcher(lines[i]);
            if (t.matches()) {
                typed++;
                Check.typeAll(x, Integer.parseInt(t.group(2)), t.group(1));
            } else if (a.matches()) {
                check.due(lines[i], ask(x, a.group(1), a.group(2)), Long.parseLong(a.group(3)));
            } else {
                check.holds("a line that can be read: " + lines[i], lines[i].isEmpty());
            }
        }
        check.due("texts that are typed", typed, TEXTS);
    }

    private static long ask(BittenStick x, String name, String told) throws Exception {
        String[] parts = told.isEmpty() ? new String[0] : told.split(", ");
        Object[] values = new Object[parts.length];
        for (int i = 0; i < parts.length; i++) {
            values[i] = parts[i].equals("BittenStick.NONE") ? -1 : Integer.parseInt(parts[i]);
        }
        for (Method m : BittenStick.class.getDeclaredMethods()) {
            if (m.getName().equals(name) && Modifier.isPublic(m.getModifiers())) {
                return ((Number) m.invoke(x, values)).longValue();
            }
        }
        throw new IllegalArgumentException("no such call: " + name);
    }

    private static void table(String page) {
        for (Method m : BittenStick.class.getDeclaredMethods()) {
            if (Modifier.isPublic(m.getModifiers())) {
                StringBuilder call = new StringBuilder("`" + m.getName() + "\\(");
                for (int i = 0; i < m.getParameterCount(); i++) {
                    call.append(i == 0 ? "\\w+" : ", \\w+");
                }
                boolean told = Pattern.compile("(?m)^\\|.*" + call + "\\)`.*\\|$").matcher(page).find();
                check.holds("a row that tells " + m.getName(), told);
            }
        }
    }
}
