import java.io.PrintWriter;
import java.io.StringWriter;
import java.util.ArrayList;
import java.util.HashMap;
import java.util.List;
import java.util.Map;
import java.util.Optional;
import java.util.TreeSet;
import java.util.regex.Matcher;
import java.util.regex.Pattern;
import java.util.spi.ToolProvider;

/** Rules 8 and 11 of LANGUAGE.md, as the compiled class shows them: no recursion, and calls at most eight deep. */
public final class CallDepthTest {
    private static final int DEEPEST = 8;
    private static final Pattern CLASS = Pattern.compile("^[\\w ]*class (BittenStick\\S*)(?: extends (\\S+))?.*");
    private static final Pattern METHOD = Pattern.compile("^  (?:[\\w.\\[\\]$]+ )*([\\w$]+)\\(.*\\);$");
    private static final Pattern CALL = Pattern.compile(".*invoke\\w+ .*// (?:Interface)?Method (?:([\\w$/]+)\\.)?"
            + "\"?([\\w<>]+)\"?:.*");
    private static final Check check = new Check("CallDepthTest");

    private final Map<String, TreeSet<String>> calls = new HashMap<>();
    private final Map<String, String> above = new HashMap<>();
    private final Map<String, Integer> depths = new HashMap<>();

    public static void main(String[] args) {
        Optional<ToolProvider> javap = ToolProvider.findFirst("javap");
        if (javap.isEmpty()) {
            System.out.println("CallDepthTest: there is no javap here, so nothing is looked at");
            return;
        }
        CallDepthTest test = new CallDepthTest();
        test.read(listing(javap.get()));
        for (String method : test.calls.keySet()) {
            int depth = test.depth(method, new ArrayList<>());
            check.holds("at most " + DEEPEST + " deep: " + method + " is " + depth, depth <= DEEPEST);
        }
        check.holds("the whole face was read", test.calls.containsKey("BittenStick.digest")
                && test.depths.get("BittenStick.digest") > 3);
        check.end();
    }

    private static String listing(ToolProvider javap) {
        List<String> args = new ArrayList<>(List.of("-c", "-p", "-cp", System.getProperty("java.class.path")));
        args.add("BittenStick");
        for (Class<?> inside : BittenStick.class.getDeclaredClasses()) {
            args.add(inside.getName());
        }
        StringWriter out = new StringWriter();
        PrintWriter writer = new PrintWriter(out);
        javap.run(writer, writer, args.toArray(new String[0]));
        writer.flush();
        return out.toString();
    }

    private void read(String listing) {
        String type = "";
        String method = "";
        for (String line : listing.split("\\R")) {
            Matcher c = CLASS.matcher(line);
            Matcher m = METHOD.matcher(line);
            Matcher i = CALL.matcher(line);
            if (c.matches()) {
                type = c.group(1);
                above.put(type, c.group(2) == null ? "" : c.group(2));
            } else if (m.matches()) {
                method = type + "." + (m.group(1).equals(type) ? "<init>" : m.group(1));
                calls.put(method, new TreeSet<>());
            } else if (i.matches()) {
                calls.get(method).add((i.group(1) == null ? type : i.group(1)) + "." + i.group(2));
            }
        }
    }

    private int depth(String method, List<String> open) {
        if (depths.containsKey(method)) {
            return depths.get(method);
        }
        check.holds("no recursion: " + method + " of " + open, !open.contains(method));
        if (open.contains(method)) {
            return DEEPEST + 1;
        }
        open.add(method);
        int deepest = 0;
        for (String called : calls.getOrDefault(method, new TreeSet<>())) {
            for (String target : targets(called)) {
                deepest = Math.max(deepest, depth(target, open));
            }
        }
        open.remove(open.size() - 1);
        depths.put(method, deepest + 1);
        return deepest + 1;
    }

    /** The method itself, the one that it has from above, or those of the classes below. */
    private List<String> targets(String called) {
        String type = called.substring(0, called.lastIndexOf('.'));
        String name = called.substring(called.lastIndexOf('.'));
        List<String> targets = new ArrayList<>();
        String holder = type;
        while (above.containsKey(holder) && !calls.containsKey(holder + name)) {
            holder = above.get(holder);
        }
        targets.add(holder + name);
        for (Map.Entry<String, String> entry : above.entrySet()) {
            boolean below = entry.getValue().equals(type) && !name.equals(".<init>");
            if (below && calls.containsKey(entry.getKey() + name)) {
                targets.add(entry.getKey() + name);
            }
        }
        return targets;
    }
}
