import java.math.BigInteger;
import java.util.ArrayList;
import java.util.List;

/** A slow second reading of the document: every flight is flown anew, mile by mile, and every choice is tried. */
final class Model {
    private static final int NONE = -1, BAD = -2, NOT = -3, FULL = -4;
    private static final int[] LIMITS = {24, 39, 23};

    private final List<List<Integer>> texts = List.of(new ArrayList<>(), new ArrayList<>(), new ArrayList<>());
    private final List<int[]> flights = new ArrayList<>();
    private final List<int[]> seen = new ArrayList<>();
    private final int[][] sheets = new int[4][];
    private final int[] forms = new int[4];
    private final String[] read = {"", "", ""};
    private final int[] faults = {NONE, NONE, NONE};
    private int learned;
    private int finding;

    /** How a flight went: to which mile, how it ended, and what was behind each mile that was flown. */
    private record Flown(int to, int end, List<int[]> behind) {
    }

    /** What is put in place of what a flight has; heights are told mile by mile. */
    private record Plan(int passenger, int sore, int left, int right, int[] heights, int learned, int silent) {
    }

    // ---- texts

    private String text(int text) {
        StringBuilder all = new StringBuilder();
        for (int b : texts.get(text)) {
            all.append((char) b);
        }
        return all.toString();
    }

    /** The text may go on from each beginning of a whole one, so the fault is behind the longest such beginning. */
    private int findFault(int text) {
        String all = text(text);
        String[] whole = {"[a-foiw]*", "([tdps][a-f][1-9][1-9](;[tdps][a-f][1-9][1-9])*)?", "([1-9][0-9](;[1-9][0-9])*)?"};
        String[] ends = {"", "ta11", "10"};
        if (all.matches(whole[text])) {
            return NONE;
        }
        for (int length = all.length(); length > 0; length--) {
            String beginning = all.substring(0, length);
            for (int cut = 0; cut <= ends[text].length(); cut++) {
                if ((beginning + ends[text].substring(cut)).matches(whole[text])) {
                    return length;
                }
            }
        }
        return 0;
    }

    /** Texts change seldom and are asked for often. */
    private int readAgain(int text) {
        faults[text] = findFault(text);
        read[text] = faults[text] == NONE ? text(text) : "";
        return texts.get(text).size();
    }

    int fault(int text) {
        return text < 0 || text > 2 ? BAD : faults[text];
    }

    private String well(int text) {
        return read[text];
    }

    private String[] things(int text) {
        return well(text).isEmpty() ? new String[0] : well(text).split(";");
    }

    int type(int text, int b) {
        if (text < 0 || text > 2 || b < 0 || b > 255) {
            return BAD;
        }
        if (texts.get(text).size() == LIMITS[text]) {
            return FULL;
        }
        texts.get(text).add(b);
        return readAgain(text);
    }

    int wipe(int text) {
        if (text < 0 || text > 2) {
            return BAD;
        }
        int had = texts.get(text).size();
        texts.get(text).clear();
        readAgain(text);
        return had;
    }

    int undo(int text) {
        if (text < 0 || text > 2) {
            return BAD;
        }
        List<Integer> bytes = texts.get(text);
        if (bytes.isEmpty()) {
            return NOT;
        }
        bytes.remove(bytes.size() - 1);
        return readAgain(text);
    }

    private int miles() {
        return well(0).length();
    }

    int mile(int mile) {
        if (mile < 0 || mile > 23) {
            return BAD;
        }
        return mile < miles() ? "abcdefoiw".indexOf(well(0).charAt(mile)) : NONE;
    }

    int passenger(int passenger, int what) {
        if (passenger < 0 || passenger >= things(1).length || what < 0 || what > 3) {
            return BAD;
        }
        char told = things(1)[passenger].charAt(what);
        return what == 0 ? "tdps".indexOf(told) : what == 1 ? told - 'a' : told - '0';
    }

    int goose(int goose, int what) {
        if (goose < 0 || goose >= things(2).length || what < 0 || what > 1) {
            return BAD;
        }
        return things(2)[goose].charAt(what) - '0';
    }

    // ---- flights

    int flight(int passenger, int left, int right, int height) {
        if (Math.min(passenger, Math.min(left, right)) < 0 || Math.max(passenger, Math.max(left, right)) > 7) {
            return BAD;
        }
        if (left == right || height < 1 || height > 9) {
            return BAD;
        }
        if (flights.size() == 8) {
            return FULL;
        }
        flights.add(new int[] {passenger, left, right, height});
        return flights.size();
    }

    int back() {
        if (flights.isEmpty()) {
            return NOT;
        }
        flights.remove(flights.size() - 1);
        return flights.size();
    }

    int read(int s) {
        if (s < 0 || s > 3) {
            return BAD;
        }
        if (sheets[s] == null) {
            return found(1);
        }
        int[] row = sheets[s];
        int number = 0;
        while (4 * number + 4 <= row.length
                && flight(row[4 * number], row[4 * number + 1], row[4 * number + 2], row[4 * number + 3]) > 0) {
            number++;
        }
        return number;
    }

    int learn(int calls) {
        if (calls < 0 || calls > 63) {
            return BAD;
        }
        int were = learned;
        learned = calls;
        return were;
    }

    private static int[] level(int height) {
        int[] heights = new int[24];
        java.util.Arrays.fill(heights, height);
        return heights;
    }

    private Plan planOf(int flight) {
        int[] f = flights.get(flight);
        return new Plan(f[0], passenger(f[0], 1), f[1], f[2], level(f[3]), learned, 0);
    }

    /** Flies a plan; bits of silent are miles whose towns do not call. */
    private Flown fly(Plan plan) {
        List<int[]> behind = new ArrayList<>();
        if (passenger(plan.passenger, 0) == BAD || goose(plan.left, 0) == BAD || goose(plan.right, 0) == BAD) {
            return new Flown(0, 1, behind);
        }
        int kind = passenger(plan.passenger, 0);
        int temper = passenger(plan.passenger, 2);
        int weight = passenger(plan.passenger, 3);
        // a goose: how strong it is, how far it has flown since it tired, how strong it was told, by what it tires
        int[] left = {goose(plan.left, 0), 0, goose(plan.left, 0), goose(plan.left, 1)};
        int[] right = {goose(plan.right, 0), 0, goose(plan.right, 0), goose(plan.right, 1)};
        int anger = 0;
        int cold = 0;
        String land = well(0);
        for (int mile = 0; mile < land.length(); mile++) {
            char over = land.charAt(mile);
            int height = plan.heights[mile];
            if (over == 'w') {
                int[] other = left;
                left = right;
                right = other;
            }
            for (int[] g : new int[][] {left, right}) {
                g[1]++;
                if (g[3] != 0 && g[1] == g[3]) {
                    g[0]--;
                    g[1] = 0;
                }
            }
            int end = 0;
            if (left[0] < Math.ceil(weight / 2.0) || right[0] < Math.floor(weight / 2.0)) {
                end = 1;
            }
            if (end == 0) {
                cold += height > 5 ? height - 5 : 0;
                end = cold > 20 ? 2 : 0;
            }
            int call = "abcdef".indexOf(over);
            boolean heard = call >= 0 && (plan.learned & 1 << call) == 0 && (plan.silent & 1 << mile) == 0;
            if (end == 0 && heard && kind != 1 && !(kind == 3 && height > 6)) {
                anger += (10 - height) * (call == plan.sore ? 2 : 1) + (kind == 2 ? 1 : 0);
                end = anger > 5 * temper ? 3 : 0;
            }
            if (end == 0 && over == 'i') {
                anger = 0;
                cold = 0;
                left[0] = Math.min(left[0] + 1, left[2]);
                right[0] = Math.min(right[0] + 1, right[2]);
            }
            behind.add(new int[] {anger, cold, left[0], right[0]});
            if (end != 0) {
                return new Flown(mile, end, behind);
            }
        }
        return new Flown(land.length(), 0, behind);
    }

    private boolean isFlight(int flight) {
        return flight >= 0 && flight < flights.size();
    }

    int comes(int flight, int what) {
        if (!isFlight(flight) || what < 0 || what > 2) {
            return BAD;
        }
        Flown flown = fly(planOf(flight));
        if (what < 2) {
            return what == 0 ? flown.to : flown.end;
        }
        return flown.end == 0 || flown.to >= miles() ? NONE : "abcdef".indexOf(well(0).charAt(flown.to));
    }

    int behind(int flight, int mile, int what) {
        if (!isFlight(flight) || mile < 0 || mile >= miles() || what < 0 || what > 3) {
            return BAD;
        }
        List<int[]> behind = fly(planOf(flight)).behind;
        return mile < behind.size() ? behind.get(mile)[what] : NONE;
    }

    int farthest() {
        int farthest = NONE;
        for (int flight = 0; flight < flights.size(); flight++) {
            if (farthest == NONE || isFarther(fly(planOf(flight)), fly(planOf(farthest)))) {
                farthest = flight;
            }
        }
        return farthest;
    }

    private static boolean isFarther(Flown one, Flown other) {
        if ((one.end == 0) != (other.end == 0)) {
            return one.end == 0;
        }
        return one.to > other.to;
    }

    // ---- plans

    int climb(int flight, int i) {
        if (!isFlight(flight) || i < -1 || i > 2) {
            return BAD;
        }
        Plan plan = planOf(flight);
        int far = NONE;
        int[] row = {};
        for (int height = 1; height <= 9; height++) {
            for (int mile = 1; mile <= 23; mile++) {
                for (int other = 1; other <= 9; other++) {
                    int[] heights = level(height);
                    java.util.Arrays.fill(heights, mile, 24, other);
                    int to = fly(new Plan(plan.passenger, plan.sore, plan.left, plan.right, heights, learned, 0)).to;
                    if (to > far) {
                        far = to;
                        row = new int[] {height, mile, other};
                    }
                }
            }
        }
        return i == NONE ? far : row[i];
    }

    int practice(int flight, int what) {
        if (!isFlight(flight) || what < 0 || what > 1) {
            return BAD;
        }
        Plan plan = planOf(flight);
        for (int number = 0; number <= 6; number++) {
            for (int bits = 0; bits < 64; bits++) {
                if (Integer.bitCount(bits) == number
                        && fly(new Plan(plan.passenger, plan.sore, plan.left, plan.right, plan.heights, bits, 0)).end == 0) {
                    return what == 0 ? number : bits;
                }
            }
        }
        return NONE;
    }

    int pair(int flight, int what) {
        if (!isFlight(flight) || what < 0 || what > 1) {
            return BAD;
        }
        Plan plan = planOf(flight);
        int far = NONE;
        int which = NONE;
        int number = things(2).length;
        for (int both = 0; both < 64; both++) {
            int left = both / 8;
            int right = both % 8;
            if (left != right && left < number && right < number) {
                int to = fly(new Plan(plan.passenger, plan.sore, left, right, plan.heights, learned, 0)).to;
                if (to > far) {
                    far = to;
                    which = both;
                }
            }
        }
        return what == 0 ? which : far;
    }

    // ---- seen, laughter, lakes

    int seen(int flight, int mile) {
        if (flight < 0 || flight > 7 || mile < 0 || mile > 24) {
            return BAD;
        }
        if (seen.size() == 8) {
            return FULL;
        }
        seen.add(new int[] {flight, mile});
        return seen.size();
    }

    int forget() {
        int had = seen.size();
        seen.clear();
        return had;
    }

    private int comesWithSore(int flight, int passenger, int sore) {
        Plan plan = planOf(flight);
        int his = plan.passenger == passenger ? sore : plan.sore;
        return fly(new Plan(plan.passenger, his, plan.left, plan.right, plan.heights, learned, 0)).to;
    }

    int sores(int passenger) {
        if (passenger < 0 || passenger >= things(1).length) {
            return BAD;
        }
        int bits = 0;
        for (int sore = 0; sore < 6; sore++) {
            boolean so = true;
            for (int[] s : seen) {
                so &= isFlight(s[0]) && comesWithSore(s[0], passenger, sore) == s[1];
            }
            bits += so ? 1 << sore : 0;
        }
        return bits;
    }

    int high(int flight) {
        if (!isFlight(flight)) {
            return BAD;
        }
        int bits = 0;
        int[] f = flights.get(flight);
        int told = f[3];
        for (int height = 1; height <= 9; height++) {
            f[3] = height;
            boolean so = true;
            for (int[] s : seen) {
                so &= isFlight(s[0]) && comes(s[0], 0) == s[1];
            }
            bits += so ? 1 << height : 0;
        }
        f[3] = told;
        return bits;
    }

    int ask(int passenger) {
        int possible = sores(passenger);
        if (possible == BAD) {
            return BAD;
        }
        int asked = NONE;
        int least = Integer.MAX_VALUE;
        for (int flight = 0; flight < flights.size(); flight++) {
            int greatest = 0;
            for (int mile = 0; mile <= 24; mile++) {
                int number = 0;
                for (int sore = 0; sore < 6; sore++) {
                    number += (possible & 1 << sore) != 0 && comesWithSore(flight, passenger, sore) == mile ? 1 : 0;
                }
                greatest = Math.max(greatest, number);
            }
            if (greatest < least) {
                least = greatest;
                asked = flight;
            }
        }
        return asked;
    }

    long laugh(int c, int flight, int what) {
        String land = well(0);
        List<Integer> towns = new ArrayList<>();
        for (int mile = 0; mile < land.length(); mile++) {
            if ("abcdef".indexOf(land.charAt(mile)) >= 0) {
                towns.add(mile);
            }
        }
        if (c < 0 || c > 16 || !isFlight(flight) || what < 0 || what > 1 || towns.size() > 10) {
            return Long.MIN_VALUE + 2;
        }
        Plan plan = planOf(flight);
        BigInteger above = BigInteger.ZERO;
        for (int choice = 0; choice < 1 << towns.size(); choice++) {
            int silent = 0;
            BigInteger weight = BigInteger.ONE;
            for (int t = 0; t < towns.size(); t++) {
                boolean calls = (choice & 1 << t) != 0;
                silent |= calls ? 0 : 1 << towns.get(t);
                weight = weight.multiply(BigInteger.valueOf(calls ? c : 16 - c));
            }
            if (fly(new Plan(plan.passenger, plan.sore, plan.left, plan.right, plan.heights, learned, silent)).end == 0) {
                above = above.add(weight);
            }
        }
        BigInteger below = BigInteger.valueOf(16).pow(towns.size());
        BigInteger shared = above.gcd(below);
        return (what == 0 ? above : below).divide(shared).longValueExact();
    }

    int lakes(int seed, int n, int what) {
        if (n < 1 || n > 99 || what < 0 || what > 1) {
            return BAD;
        }
        int passengers = things(1).length;
        int number = 0;
        int[] lots = {seed};
        for (int i = 0; i < n && passengers > 0 && things(2).length > 1; i++) {
            List<Integer> geese = new ArrayList<>();
            for (int g = 0; g < things(2).length; g++) {
                geese.add(g);
            }
            int passenger = lot(lots, passengers);
            int left = geese.remove(lot(lots, geese.size()));
            int right = geese.get(lot(lots, geese.size()));
            int height = lot(lots, 9) + 1;
            int end = fly(new Plan(passenger, passenger(passenger, 1), left, right, level(height), learned, 0)).end;
            number += end == (what == 0 ? 0 : 3) ? 1 : 0;
        }
        return number;
    }

    private static int lot(int[] seed, int m) {
        seed[0] = (int) (1103515245L * seed[0] + 12345L);
        long unsigned = seed[0] & 0xFFFFFFFFL;
        return (int) (unsigned / 65536 % m);
    }

    // ---- sheets

    private int found(int number) {
        finding = number;
        return -10 - number;
    }

    int sheet(int s, int form, int n) {
        if (s < 0 || s > 3 || form < 0 || form > 2 || n > 60) {
            return BAD;
        }
        if (n < 0) {
            return found(5);
        }
        sheets[s] = new int[n];
        forms[s] = form;
        return n;
    }

    int lose(int s) {
        if (s < 0 || s > 3) {
            return BAD;
        }
        if (sheets[s] == null) {
            return found(1);
        }
        int had = sheets[s].length;
        sheets[s] = null;
        return had;
    }

    private int cut(int form, int v) {
        return form == 0 ? v << 24 >> 24 : form == 1 ? v << 16 >> 16 : v;
    }

    int lay(int s, int form, int i, int v) {
        if (s < 0 || s > 3 || form < 0 || form > 2) {
            return BAD;
        }
        if (sheets[s] == null) {
            return found(1);
        }
        if (forms[s] != form) {
            return found(3);
        }
        if (i < 0 || i >= sheets[s].length) {
            return found(2);
        }
        sheets[s][i] = cut(form, v);
        return 1;
    }

    int get(int s, int form, int i) {
        if (s < 0 || s > 3 || form < 0 || form > 2) {
            return Integer.MIN_VALUE;
        }
        int number = sheets[s] == null ? 1 : forms[s] != form ? 3 : i < 0 || i >= sheets[s].length ? 2 : 0;
        if (number != 0) {
            finding = number;
            return Integer.MIN_VALUE;
        }
        return sheets[s][i];
    }

    int copy(int s, int i, int t, int j, int n) {
        if (s < 0 || s > 3 || t < 0 || t > 3) {
            return BAD;
        }
        if (sheets[s] == null || sheets[t] == null) {
            return found(1);
        }
        if (forms[s] != forms[t]) {
            return found(4);
        }
        if (i < 0 || j < 0 || n < 0 || (long) i + n > sheets[s].length || (long) j + n > sheets[t].length) {
            return found(2);
        }
        int[] were = sheets[s].clone();
        for (int k = 0; k < n; k++) {
            sheets[t][j + k] = were[i + k];
        }
        return 1;
    }

    int write(int flight, int what, int s) {
        if (!isFlight(flight) || what < 0 || what > 1 || s < 0 || s > 3) {
            return BAD;
        }
        if (sheets[s] == null) {
            return found(1);
        }
        int number = 0;
        while (number < sheets[s].length && number < miles()) {
            sheets[s][number] = cut(forms[s], behind(flight, number, what));
            number++;
        }
        return number;
    }

    int count(int what) {
        int[] counts = {miles(), things(1).length, things(2).length, texts.get(0).size(), texts.get(1).size(),
            texts.get(2).size(), flights.size(), seen.size(), finding};
        return what < 0 || what > 8 ? BAD : counts[what];
    }

    long digest() {
        List<Long> all = new ArrayList<>();
        for (int what = 0; what <= 7; what++) {
            all.add((long) count(what));
        }
        for (int text = 0; text <= 2; text++) {
            all.add((long) fault(text));
        }
        for (int mile = 0; mile < miles(); mile++) {
            all.add((long) mile(mile));
        }
        for (int p = 0; p < things(1).length; p++) {
            for (int what = 0; what <= 3; what++) {
                all.add((long) passenger(p, what));
            }
            all.add((long) sores(p));
            all.add((long) ask(p));
        }
        for (int g = 0; g < things(2).length; g++) {
            all.add((long) goose(g, 0));
            all.add((long) goose(g, 1));
        }
        for (int f = 0; f < flights.size(); f++) {
            for (int what = 0; what <= 2; what++) {
                all.add((long) comes(f, what));
            }
            for (int what = 0; what <= 3; what++) {
                all.add((long) behind(f, 3, what));
            }
            for (int i = NONE; i <= 2; i++) {
                all.add((long) climb(f, i));
            }
            all.add((long) practice(f, 0));
            all.add((long) practice(f, 1));
            all.add((long) pair(f, 0));
            all.add((long) pair(f, 1));
            all.add((long) high(f));
            all.add(laugh(5, f, 0));
            all.add(laugh(5, f, 1));
        }
        all.add((long) farthest());
        all.add((long) lakes(7, 30, 0));
        all.add((long) lakes(7, 30, 1));
        long h = 17;
        for (long value : all) {
            h = 31 * h + value;
        }
        return h;
    }
}
