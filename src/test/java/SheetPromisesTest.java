/** Promises 26 to 33: sheets, counts, the digest. */
public final class SheetPromisesTest {
    private static final int NONE = -1, BAD = -2;
    private static final int NULL = -11, INDEX = -12, CAST = -13, STORE = -14, SIZE = -15;
    private static final int LEAST = Integer.MIN_VALUE;
    private static final Check check = new Check("SheetPromisesTest");

    public static void main(String[] args) {
        sheetAndLose();
        layAndGet();
        copy();
        write();
        count();
        digest();
        check.due("NONE", BittenStick.NONE, -1);
        check.due("BAD", BittenStick.BAD, -2);
        check.due("NOT", BittenStick.NOT, -3);
        check.due("FULL", BittenStick.FULL, -4);
        check.end();
    }

    private static void found(String what, BittenStick x, int number) {
        check.due("32 finding: " + what, x.count(8), number);
    }

    private static void sheetAndLose() {
        BittenStick x = new BittenStick();
        check.due("26 sheet 4", x.sheet(4, 0, 1), BAD);
        check.due("26 sheet -1", x.sheet(-1, 0, 1), BAD);
        check.due("26 form 3", x.sheet(0, 3, 1), BAD);
        check.due("26 form -1", x.sheet(0, -1, 1), BAD);
        check.due("26 above 60", x.sheet(0, 0, 61), BAD);
        check.due("26 bad ahead of size", x.sheet(0, 3, -1), BAD);
        found("none", x, 0);
        check.due("26 size", x.sheet(0, 0, -1), SIZE);
        found("size", x, 5);
        check.due("26 size", x.sheet(0, 0, LEAST), SIZE);
        check.due("27 still lost", x.lose(0), NULL);
        found("null", x, 1);
        for (int s = 0; s < 4; s++) {
            for (int form = 0; form < 3; form++) {
                check.due("26 sheet", x.sheet(s, form, 60), 60);
                check.due("26 form", x.get(s, form, 59), 0);
                check.due("26 item 0", x.get(s, form, 0), 0);
                check.due("28 lay", x.lay(s, form, 59, 7), 1);
                check.due("28 lay", x.lay(s, form, 0, 7), 1);
            }
            check.due("26 anew", x.sheet(s, 2, 60), 60);
            check.due("26 items are 0", x.get(s, 2, 59), 0);
            check.due("26 none", x.sheet(s, 1, 0), 0);
            check.due("27 lose", x.lose(s), 0);
            check.due("27 lost", x.lose(s), NULL);
        }
        x.sheet(2, 1, 5);
        check.due("27 lose", x.lose(2), 5);
        check.due("27 bad", x.lose(4), BAD);
        check.due("27 bad", x.lose(-1), BAD);
        x.sheet(1, 0, 3);
        x.lay(1, 0, 2, 9);
        check.due("26 refused", x.sheet(1, 0, 61), BAD);
        check.due("26 refused", x.sheet(1, 2, -1), SIZE);
        check.due("26 nothing changed", x.get(1, 0, 2), 9);
    }

    private static void layAndGet() {
        BittenStick x = new BittenStick();
        check.due("28 null", x.lay(0, 0, 0, 0), NULL);
        check.due("29 null", x.get(0, 0, 0), LEAST);
        found("null", x, 1);
        x.sheet(0, 1, 2);
        check.due("28 cast", x.lay(0, 0, 0, 0), CAST);
        found("cast", x, 3);
        check.due("28 index", x.lay(0, 1, 2, 0), INDEX);
        found("index", x, 2);
        check.due("28 index", x.lay(0, 1, -1, 0), INDEX);
        check.due("28 cast ahead of index", x.lay(0, 2, -1, 0), CAST);
        check.due("28 null ahead of cast", x.lay(1, 2, -1, 0), NULL);
        check.due("28 bad ahead of null", x.lay(1, 3, 0, 0), BAD);
        check.due("28 bad", x.lay(4, 0, 0, 0), BAD);
        check.due("28 bad", x.lay(-1, 0, 0, 0), BAD);
        check.due("28 bad", x.lay(0, -1, 0, 0), BAD);
        found("null, not changed by bad ones", x, 1);
        check.due("29 cast ahead of index", x.get(0, 2, 5), LEAST);
        found("cast", x, 3);
        check.due("29 index", x.get(0, 1, 2), LEAST);
        found("index", x, 2);
        check.due("29 index", x.get(0, 1, -1), LEAST);
        x.get(2, 0, 0);
        found("null", x, 1);
        check.due("29 bad", x.get(4, 0, 0), LEAST);
        check.due("29 bad", x.get(-1, 0, 0), LEAST);
        check.due("29 bad", x.get(0, 3, 0), LEAST);
        check.due("29 bad", x.get(0, -1, 0), LEAST);
        found("null", x, 1);
        lowestBits(x);
    }

    private static void lowestBits(BittenStick x) {
        int[] values = {0, 1, -1, 127, 128, 255, 256, -128, -129, 32767, 32768, 65535, 65536, -32769,
            Integer.MAX_VALUE, LEAST};
        for (int form = 0; form < 3; form++) {
            x.sheet(form, form, 60);
            for (int i = 0; i < values.length; i++) {
                int v = values[i];
                check.due("28 lay", x.lay(form, form, i, v), 1);
                int due = form == 0 ? (byte) v : form == 1 ? (short) v : v;
                check.due("29 get " + v + " of form " + form, x.get(form, form, i), due);
                check.due("28 this item alone", x.get(form, form, i + 1), 0);
            }
        }
    }

    private static void items(String what, BittenStick x, int s, int... due) {
        for (int i = 0; i < due.length; i++) {
            check.due("30 " + what + " " + i, x.get(s, 1, i), due[i]);
        }
    }

    private static void copy() {
        BittenStick x = new BittenStick();
        check.due("30 null", x.copy(0, 0, 1, 0, 0), NULL);
        x.sheet(0, 1, 5);
        check.due("30 null, to", x.copy(0, 0, 1, 0, 0), NULL);
        check.due("30 null, from", x.copy(1, 0, 0, 0, 0), NULL);
        x.sheet(1, 1, 3);
        x.sheet(2, 2, 5);
        for (int i = 0; i < 5; i++) {
            x.lay(0, 1, i, i + 1);
        }
        check.due("30 to itself, behind", x.copy(0, 0, 0, 1, 4), 1);
        items("as they were", x, 0, 1, 1, 2, 3, 4);
        check.due("30 to itself, ahead", x.copy(0, 2, 0, 0, 3), 1);
        items("as they were", x, 0, 2, 3, 4, 3, 4);
        check.due("30 to another", x.copy(0, 1, 1, 0, 2), 1);
        items("another", x, 1, 3, 4, 0);
        check.due("30 whole", x.copy(1, 0, 0, 2, 3), 1);
        items("whole", x, 0, 2, 3, 3, 4, 0);
        check.due("30 none, at the ends", x.copy(0, 5, 1, 3, 0), 1);
        int[][] wrong = {{0, 0, 4}, {0, 1, 3}, {3, 0, 3}, {-1, 0, 1}, {0, -1, 1}, {0, 0, -1}, {6, 0, 0}, {0, 4, 0},
            {Integer.MAX_VALUE, 0, 1}, {0, Integer.MAX_VALUE, 1}, {1, 1, Integer.MAX_VALUE}, {0, 0, LEAST},
            {LEAST, LEAST, LEAST}};
        for (int[] w : wrong) {
            check.due("30 index", x.copy(0, w[0], 1, w[1], w[2]), INDEX);
        }
        found("index", x, 2);
        items("nothing changed", x, 1, 3, 4, 0);
        check.due("30 store ahead of index", x.copy(0, -1, 2, 0, 1), STORE);
        found("store", x, 4);
        check.due("30 null ahead of store", x.copy(3, 0, 2, 0, 1), NULL);
        check.due("30 bad", x.copy(4, 0, 0, 0, 0), BAD);
        check.due("30 bad", x.copy(-1, 0, 0, 0, 0), BAD);
        check.due("30 bad", x.copy(0, 0, 4, 0, 0), BAD);
        check.due("30 bad ahead of null", x.copy(3, 0, -1, 0, 0), BAD);
        found("null", x, 1);
    }

    private static void write() {
        BittenStick x = Check.stick("boboooo", "ta11", "90;90");
        x.flight(0, 0, 1, 7);
        x.flight(0, 0, 1, 5);
        x.flight(1, 0, 1, 5);
        check.due("31 null", x.write(0, 0, 0), NULL);
        check.due("31 bad", x.write(3, 0, 0), BAD);
        check.due("31 bad", x.write(-1, 0, 0), BAD);
        check.due("31 bad", x.write(0, 2, 0), BAD);
        check.due("31 bad", x.write(0, -1, 0), BAD);
        check.due("31 bad", x.write(0, 0, 4), BAD);
        check.due("31 bad", x.write(0, 0, -1), BAD);
        int[] anger = {3, 3, 6, NONE, NONE, NONE, NONE, 50, 50};
        int[] cold = {2, 4, 6, NONE, NONE, NONE, NONE, 50, 50};
        int[] nowhere = {NONE, NONE, NONE, NONE, NONE, NONE, NONE, 50, 50};
        for (int form = 0; form < 3; form++) {
            written(x, form, 0, 0, anger);
            written(x, form, 0, 1, cold);
            written(x, form, 2, 0, nowhere);
            x.sheet(form, form, 2);
            check.due("31 as many as there are items", x.write(0, 0, form), 2);
            check.due("31 item", x.get(form, form, 1), 3);
            x.sheet(form, form, 0);
            check.due("31 none", x.write(0, 0, form), 0);
        }
        x.wipe(0);
        x.sheet(0, 0, 9);
        check.due("31 no miles", x.write(0, 0, 0), 0);
    }

    private static void written(BittenStick x, int form, int flight, int what, int[] due) {
        x.sheet(form, form, due.length);
        for (int i = 0; i < due.length; i++) {
            x.lay(form, form, i, 50);
        }
        check.due("31 as many as there are miles", x.write(flight, what, form), 7);
        for (int i = 0; i < due.length; i++) {
            check.due("31 item " + i, x.get(form, form, i), due[i]);
        }
    }

    private static void count() {
        BittenStick x = Check.stick("abo", "ta11;tb22", "90;80;70;60");
        x.flight(0, 0, 1, 1);
        x.seen(0, 0);
        x.seen(0, 1);
        int[] due = {3, 2, 4, 3, 9, 11, 1, 2, 0};
        for (int what = 0; what <= 8; what++) {
            check.due("32 count " + what, x.count(what), due[what]);
        }
        check.due("32 bad", x.count(9), BAD);
        check.due("32 bad", x.count(-1), BAD);
        x.type(0, 'x');
        check.due("32 with a fault", x.count(0), 0);
        check.due("32 bytes stay", x.count(3), 4);
    }

    private static long mix(long h, long... values) {
        long mixed = h;
        for (long v : values) {
            mixed = 31 * mixed + v;
        }
        return mixed;
    }

    private static void digest() {
        long due = mix(17, 0, 0, 0, 0, 0, 0, 0, 0, -1, -1, -1, -1, 0, 0);
        check.due("33 a new object", new BittenStick().digest(), due);
        BittenStick x = Check.stick("oba", "ta11", "90;80");
        x.flight(0, 0, 1, 5);
        x.seen(0, 2);
        // 3 miles, so behind(it, 3, ..) is BAD; he speaks over mile 2, whatever is his sore but b; of heights 5 to
        // 8 (b, then a twice: 15 to 6 above 5) and 9 (3) the latter arrives.
        long[] counts = {3, 1, 2, 3, 4, 5, 1, 1};
        long h = mix(mix(17, counts), -1, -1, -1, 6, 1, 0);
        h = mix(h, 0, 0, 1, 1, 61, 0, 9, 0, 8, 0);
        h = mix(h, 2, 3, 0, -2, -2, -2, -2);
        h = mix(h, 3, 1, 1, 9, 1, 1, 1, 2);
        h = mix(h, 480, x.laugh(5, 0, 0), x.laugh(5, 0, 1));
        check.due("33 climb", x.climb(0, 1), 1);
        check.due("33 laugh", x.laugh(5, 0, 0), 11);
        check.due("33 laugh", x.laugh(5, 0, 1), 16);
        h = mix(h, 0, x.lakes(7, 30, 0), x.lakes(7, 30, 1));
        check.due("33 digest", x.digest(), h);
        x.lose(0);
        check.due("33 without findings", x.digest(), h);
        BittenStick eleven = Check.stick("aaaaaaaaaaa", "", "");
        eleven.flight(0, 0, 1, 5);
        long bad = Long.MIN_VALUE + 2;
        long g = mix(17, 11, 0, 0, 11, 0, 0, 1, 0, -1, -1, -1, 0, 0, 0, 0, 0, 0, 0, 0, 0, 0, 0);
        g = mix(g, 0, 1, 0, -1, -1, -1, -1, 0, 1, 1, 1, -1, -1, -1, -1, 1022, bad, bad, 0, 0, 0);
        check.due("33 refusals as they are told", eleven.digest(), g);
    }
}
