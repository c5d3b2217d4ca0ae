import java.lang.reflect.Method;
import java.lang.reflect.Modifier;
import java.util.Arrays;
import java.util.List;
import java.util.Random;

/**
 * Long runs of calls, drawn by fixed seeds: each answer is compared with that of the slow model. In every second run
 * texts are typed byte by byte, come what may; in the others they are kept well, so that flights go somewhere.
 */
public final class ModelTest {
    private static final int RUNS = 200, CALLS = 400;
    private static final List<String> RARE = List.of("digest", "wipe", "climb", "type", "undo", "back", "lose");
    private static final List<String> RARE_WHERE_WELL = List.of("forget", "learn", "read", "seen", "flight", "mile",
            "goose", "count", "fault", "passenger");
    private static final Check check = new Check("ModelTest");

    private final Random random;
    private final BittenStick x = new BittenStick();
    private final Model model = new Model();
    private final int run;
    private final boolean keptWell;

    private ModelTest(int run) {
        this.run = run;
        keptWell = run % 2 == 0;
        random = new Random(run);
    }

    public static void main(String[] args) throws Exception {
        int runs = args.length > 0 ? Integer.parseInt(args[0]) : RUNS;
        for (int run = 0; run < runs; run++) {
            new ModelTest(run).callAll();
        }
        check.end();
    }

    private void callAll() throws Exception {
        for (int text = 0; text < 3; text++) {
            typeThings(text);
        }
        for (int flights = random.nextInt(6); flights > 0; flights--) {
            same("flight", pick(model.count(1)), pick(model.count(2)), pick(model.count(2)), 1 + random.nextInt(9));
        }
        Method[] methods = faceMethods();
        for (int i = 0; i < CALLS; i++) {
            callOne(methods[random.nextInt(methods.length)]);
        }
        same("digest");
    }

    private static Method[] faceMethods() {
        Method[] methods = Arrays.stream(BittenStick.class.getDeclaredMethods())
                .filter(m -> Modifier.isPublic(m.getModifiers())).toArray(Method[]::new);
        Arrays.sort(methods, (a, b) -> a.getName().compareTo(b.getName()));
        return methods;
    }

    private void callOne(Method method) throws Exception {
        String name = method.getName();
        boolean rare = RARE.contains(name) || keptWell && RARE_WHERE_WELL.contains(name);
        if (rare && random.nextInt(6) != 0 || name.equals("back") && keptWell) {
            return;
        }
        int[] args = new int[method.getParameterCount()];
        for (int i = 0; i < args.length; i++) {
            args[i] = random.nextInt(50) == 0 ? wild() : tame(name, i);
        }
        same(name, args);
        boolean typed = name.equals("wipe") || name.equals("type") || name.equals("undo");
        if (typed && args[0] >= 0 && args[0] <= 2 && (keptWell || name.equals("wipe"))) {
            same("wipe", args[0]);
            typeThings(args[0]);
        }
        if (name.equals("seen") && model.count(6) > 0 && random.nextInt(8) != 0) {
            // What was drawn hardly ever came out so: what did is seen in its place.
            same("forget");
            for (int n = 1 + random.nextInt(2); n > 0; n--) {
                int flight = random.nextInt(model.count(6));
                same("seen", flight, model.comes(flight, 0));
            }
        }
    }

    private int wild() {
        int[] all = {-1, -2, 3, 8, 10, 64, 61, 25, 100, 256, Integer.MAX_VALUE, Integer.MIN_VALUE, random.nextInt()};
        return all[random.nextInt(all.length)];
    }

    /** Mostly one of so many things that there are. */
    private int pick(int number) {
        return number < 1 || random.nextInt(12) == 0 ? random.nextInt(8) : random.nextInt(number);
    }

    private int tame(String name, int i) {
        boolean first = i == 0;
        switch (name) {
            case "type": return first ? random.nextInt(3) : "abcdefoiwtdps;0123456789x".charAt(random.nextInt(25));
            case "wipe": case "undo": case "fault": return random.nextInt(3);
            case "mile": return random.nextInt(24);
            case "passenger": return first ? pick(model.count(1)) : random.nextInt(4);
            case "goose": return first ? pick(model.count(2)) : random.nextInt(2);
            case "flight": return first ? pick(model.count(1)) : i < 3 ? pick(model.count(2)) : 1 + random.nextInt(9);
            case "learn": return random.nextInt(3) == 0 ? 1 << random.nextInt(6) | 1 << random.nextInt(6) : 0;
            case "comes": return first ? pick(model.count(6)) : random.nextInt(3);
            case "behind": return first ? pick(model.count(6)) : i == 1 ? random.nextInt(10) : random.nextInt(4);
            case "climb": return first ? pick(model.count(6)) : random.nextInt(4) - 1;
            case "practice": case "pair": return first ? pick(model.count(6)) : random.nextInt(2);
            case "seen": return first ? pick(model.count(6)) : random.nextInt(25);
            case "sores": case "ask": return pick(model.count(1));
            case "high": return pick(model.count(6));
            case "laugh": return first ? random.nextInt(17) : i == 1 ? pick(model.count(6)) : random.nextInt(2);
            case "lakes": return first ? random.nextInt() : i == 1 ? 1 + random.nextInt(99) : random.nextInt(2);
            default: return tameOfSheets(name, i);
        }
    }

    private int tameOfSheets(String name, int i) {
        boolean first = i == 0;
        switch (name) {
            case "read": case "lose": return random.nextInt(4);
            case "sheet": return first ? random.nextInt(4) : i == 1 ? random.nextInt(3) : random.nextInt(61);
            case "lay": return i < 2 ? random.nextInt(4 - i) : i == 2 ? random.nextInt(9)
                    : random.nextInt(5) == 0 ? random.nextInt() : random.nextInt(4);
            case "get": return i < 2 ? random.nextInt(4 - i) : random.nextInt(30);
            case "copy": return i == 0 || i == 2 ? random.nextInt(4) : random.nextInt(20);
            case "write": return first ? pick(model.count(6)) : i == 1 ? random.nextInt(2) : random.nextInt(4);
            default: return random.nextInt(9);
        }
    }

    private void typeThings(int text) throws Exception {
        StringBuilder bytes = new StringBuilder();
        int least = keptWell ? 3 : 0;
        if (text == 0) {
            String[] lands = {"abcdefoiw", "abooooooiiww", "aibicidioof", "abcdefoooooooowi"};
            String letters = lands[random.nextInt(lands.length)];
            for (int n = least + random.nextInt(25 - least); n > 0; n--) {
                bytes.append(letters.charAt(random.nextInt(letters.length())));
            }
        } else {
            for (int n = least + random.nextInt(9 - least); n > 0; n--) {
                bytes.append(text == 1 ? onePassenger() : oneGoose()).append(n > 1 ? ";" : "");
            }
        }
        for (int i = 0; i < bytes.length(); i++) {
            same("type", text, bytes.charAt(i));
        }
    }

    private String onePassenger() {
        return "" + "tttdps".charAt(random.nextInt(6)) + (char) ('a' + random.nextInt(6)) + (1 + random.nextInt(9))
                + (1 + random.nextInt(random.nextInt(3) == 0 ? 9 : 4));
    }

    private String oneGoose() {
        return "" + (random.nextInt(3) == 0 ? 1 + random.nextInt(9) : 5 + random.nextInt(5)) + random.nextInt(10);
    }

    private void same(String name, int... args) throws Exception {
        Object[] boxed = Arrays.stream(args).boxed().toArray();
        Class<?>[] types = new Class<?>[args.length];
        Arrays.fill(types, int.class);
        long got = ((Number) BittenStick.class.getMethod(name, types).invoke(x, boxed)).longValue();
        long want = ((Number) Model.class.getDeclaredMethod(name, types).invoke(model, boxed)).longValue();
        check.due("run " + run + " " + name + Arrays.toString(args), got, want);
    }
}
