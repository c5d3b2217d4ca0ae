import java.lang.reflect.Method;
import java.lang.reflect.Modifier;
import java.util.Arrays;
import java.util.Random;

/** Long runs of calls, drawn by fixed seeds: each answer is compared with that of the slow model. */
public final class ModelTest {
    private static final int RUNS = 150, CALLS = 480;
    private static final Check check = new Check("ModelTest");

    private final Random random;
    private final BittenStick x = new BittenStick();
    private final Model model = new Model();
    private final int run;

    private ModelTest(int run) {
        this.run = run;
        random = new Random(run);
    }

    public static void main(String[] args) throws Exception {
        int runs = args.length > 0 ? Integer.parseInt(args[0]) : RUNS;
        for (int run = 0; run < runs; run++) {
            new ModelTest(run).callAll();
        }
        check.end();
    }

    private void callAll() throws Exception {
        typeThing(0);
        typeThing(1);
        typeThing(2);
        Method[] methods = faceMethods();
        for (int i = 0; i < CALLS - 90; i++) {
            callOne(methods[random.nextInt(methods.length)]);
        }
        same("digest");
    }

    private static Method[] faceMethods() {
        Method[] methods = Arrays.stream(BittenStick.class.getDeclaredMethods())
                .filter(m -> Modifier.isPublic(m.getModifiers())).toArray(Method[]::new);
        Arrays.sort(methods, (a, b) -> a.getName().compareTo(b.getName()));
        return methods;
    }

    private void callOne(Method method) throws Exception {
        String name = method.getName();
        boolean rare = name.equals("digest") || name.equals("wipe") || name.equals("forget") || name.equals("climb")
                || name.equals("type") || name.equals("undo") || name.equals("back") || name.equals("lose");
        if (rare && random.nextInt(8) != 0) {
            return;
        }
        int[] args = new int[method.getParameterCount()];
        for (int i = 0; i < args.length; i++) {
            args[i] = random.nextInt(40) == 0 ? wild() : tame(name, i);
        }
        same(name, args);
        if (name.equals("wipe") && args[0] >= 0 && args[0] <= 2) {
            typeThing(args[0]);
        }
        if (name.equals("seen") && random.nextBoolean() && model.count(6) > 0) {
            int flight = random.nextInt(model.count(6));
            same("seen", flight, model.comes(flight, 0));
        }
    }

    private int wild() {
        int[] all = {-1, -2, 64, 61, 25, 100, 256, Integer.MAX_VALUE, Integer.MIN_VALUE, random.nextInt()};
        return all[random.nextInt(all.length)];
    }

    private int tame(String name, int i) {
        switch (name) {
            case "type": return i == 0 ? random.nextInt(3) : "abcdefoiwtdps;0123456789x".charAt(random.nextInt(25));
            case "mile": return random.nextInt(24);
            case "flight": return i == 3 ? 1 + random.nextInt(9) : random.nextInt(random.nextInt(6) == 0 ? 8 : 5);
            case "learn": return random.nextInt(3) == 0 ? random.nextInt(64) : 0;
            case "behind": return i == 0 ? random.nextInt(4) : i == 1 ? random.nextInt(24) : random.nextInt(4);
            case "climb": return i == 0 ? random.nextInt(4) : random.nextInt(4) - 1;
            case "seen": return i == 0 ? random.nextInt(3) : random.nextInt(25);
            case "laugh": return i == 0 ? random.nextInt(17) : i == 1 ? random.nextInt(4) : random.nextInt(2);
            case "lakes": return i == 0 ? random.nextInt() : i == 1 ? 1 + random.nextInt(99) : random.nextInt(2);
            case "sheet": return i == 0 ? random.nextInt(4) : i == 1 ? random.nextInt(3) : random.nextInt(61);
            case "lay": return i == 0 ? random.nextInt(4) : i == 1 ? random.nextInt(3)
                    : i == 2 ? random.nextInt(20) : random.nextInt(3) == 0 ? random.nextInt() : random.nextInt(9);
            case "get": return i == 0 ? random.nextInt(4) : i == 1 ? random.nextInt(3) : random.nextInt(30);
            case "copy": return i == 0 || i == 2 ? random.nextInt(4) : random.nextInt(20);
            case "write": return i == 0 ? random.nextInt(4) : i == 1 ? random.nextInt(2) : random.nextInt(4);
            default: return random.nextInt(4);
        }
    }

    /** Types passengers, geese or a land that are mostly well. */
    private void typeThing(int text) throws Exception {
        StringBuilder bytes = new StringBuilder();
        if (text == 0) {
            String letters = random.nextBoolean() ? "abcdefoiw" : "abooooooiiww";
            for (int n = random.nextInt(25); n > 0; n--) {
                bytes.append(letters.charAt(random.nextInt(letters.length())));
            }
        } else {
            for (int n = random.nextInt(9); n > 0; n--) {
                bytes.append(text == 1 ? onePassenger() : oneGoose()).append(n > 1 ? ";" : "");
            }
        }
        for (int i = 0; i < bytes.length(); i++) {
            same("type", text, bytes.charAt(i));
        }
    }

    private String onePassenger() {
        return "" + "tttdps".charAt(random.nextInt(6)) + (char) ('a' + random.nextInt(6)) + (1 + random.nextInt(9))
                + (1 + random.nextInt(random.nextBoolean() ? 9 : 5));
    }

    private String oneGoose() {
        return "" + (random.nextInt(3) == 0 ? 1 + random.nextInt(9) : 5 + random.nextInt(5)) + random.nextInt(10);
    }

    private void same(String name, int... args) throws Exception {
        Object[] boxed = Arrays.stream(args).boxed().toArray();
        Class<?>[] types = new Class<?>[args.length];
        Arrays.fill(types, int.class);
        long got = ((Number) BittenStick.class.getMethod(name, types).invoke(x, boxed)).longValue();
        long want = ((Number) Model.class.getDeclaredMethod(name, types).invoke(model, boxed)).longValue();
        check.due("run " + run + " " + name + Arrays.toString(args), got, want);
    }
}
