/** The edges of promises 11 and 26 to 33: sheets of each size, flights read, miles written, counts, the digest. */
public final class SheetEdgesTest {
    private static final int NONE = -1, BAD = -2, NULL = -11, INDEX = -12;
    private static final int LEAST = Integer.MIN_VALUE, MOST = Integer.MAX_VALUE;
    private static final Check check = new Check("SheetEdgesTest");

    public static void main(String[] args) {
        sizes();
        lostAndNew();
        bitsOfEachForm();
        readWhole();
        readAsLongAsEachMayBe();
        readUntilFull();
        copies();
        writes();
        counts();
        digests();
        check.end();
    }

    private static BittenStick laid(int s, int form, int... items) {
        BittenStick x = new BittenStick();
        lay(x, s, form, items);
        return x;
    }

    private static void lay(BittenStick x, int s, int form, int... items) {
        check.due("26 sheet", x.sheet(s, form, items.length), items.length);
        for (int i = 0; i < items.length; i++) {
            check.due("28 lay", x.lay(s, form, i, items[i]), 1);
        }
    }

    private static void sizes() {
        for (int n = 0; n <= 60; n++) {
            BittenStick x = new BittenStick();
            int form = n % 3;
            check.due("26 size " + n, x.sheet(2, form, n), n);
            for (int i = 0; i < n; i++) {
                check.due("26 0 at first", x.get(2, form, i), 0);
            }
            check.due("32 no finding", x.count(8), 0);
            check.due("28 behind the last", x.lay(2, form, n, 1), INDEX);
            check.due("29 behind the last", x.get(2, form, n), LEAST);
            check.due("32 index", x.count(8), 2);
            check.due("27 lose " + n, x.lose(2), n);
            check.due("27 lost", x.lose(2), NULL);
        }
        BittenStick y = new BittenStick();
        check.due("26 61", y.sheet(0, 0, 61), BAD);
        check.due("27 still lost", y.lose(0), NULL);
    }

    private static void lostAndNew() {
        BittenStick x = laid(0, 1, 5, 6, 7);
        check.due("27 lose", x.lose(0), 3);
        check.due("28 lost", x.lay(0, 1, 0, 1), NULL);
        check.due("29 lost", x.get(0, 1, 0), LEAST);
        check.due("26 new, of another form", x.sheet(0, 2, 5), 5);
        for (int i = 0; i < 5; i++) {
            check.due("26 nothing is left of the old", x.get(0, 2, i), 0);
        }
        lay(x, 0, 0, 1, 2, 3, 4, 5);
        check.due("26 smaller", x.sheet(0, 0, 2), 2);
        check.due("29 behind the last", x.get(0, 0, 2), LEAST);
        check.due("26 greater again", x.sheet(0, 0, 5), 5);
        for (int i = 0; i < 5; i++) {
            check.due("26 nothing is left of the old", x.get(0, 0, i), 0);
        }
        check.due("27 another is lost still", x.lose(1), NULL);
    }

    private static void bitsOfEachForm() {
        int[] laid = {127, 128, 255, 256, 511, -128, -129, -256, 32767, 32768, 65535, 65536, -32768, -32769, MOST,
            LEAST};
        int[] bytes = {127, -128, -1, 0, -1, -128, 127, 0, -1, 0, -1, 0, 0, -1, -1, 0};
        int[] shorts = {127, 128, 255, 256, 511, -128, -129, -256, 32767, -32768, -1, 0, -32768, 32767, -1, 0};
        int[][] due = {bytes, shorts, laid};
        for (int form = 0; form < 3; form++) {
            BittenStick x = laid(3, form, laid);
            for (int i = 0; i < laid.length; i++) {
                check.due("28 " + laid[i] + " as form " + form, x.get(3, form, i), due[form][i]);
            }
        }
        // The least int may be an item as well: then there is no finding.
        BittenStick y = laid(0, 2, LEAST);
        check.due("29 the least int", y.get(0, 2, 0), LEAST);
        check.due("32 no finding", y.count(8), 0);
    }

    private static void readWhole() {
        for (int n = 0; n <= 32; n++) {
            for (int form = 0; form < 3; form++) {
                int[] items = new int[n];
                for (int i = 0; i < n; i++) {
                    items[i] = i % 4 == 1 ? 1 : i % 4 == 3 ? 9 : 0;
                }
                BittenStick x = laid(1, form, items);
                check.due("11 as many as are whole of " + n, x.read(1), n / 4);
                check.due("11 flights", x.count(6), n / 4);
                check.due("11 the sheet stays", x.lose(1), n);
            }
        }
    }

    private static void readAsLongAsEachMayBe() {
        int[][] wrong = {{-1, 0, 1, 1}, {8, 0, 1, 1}, {0, -1, 1, 1}, {0, 8, 1, 1}, {0, 0, -1, 1}, {0, 0, 8, 1},
            {0, 0, 0, 1}, {7, 7, 7, 9}, {0, 0, 1, 0}, {0, 0, 1, 10}, {0, 0, 1, -1}};
        for (int form = 0; form < 3; form++) {
            for (int[] w : wrong) {
                BittenStick x = laid(0, form, 7, 7, 6, 9, w[0], w[1], w[2], w[3], 0, 0, 1, 1);
                check.due("11 up to one that may not be", x.read(0), 1);
                check.due("11 flights", x.count(6), 1);
                BittenStick first = laid(0, form, w[0], w[1], w[2], w[3], 0, 0, 1, 1);
                check.due("11 the first may not be", first.read(0), 0);
                check.due("11 flights", first.count(6), 0);
                check.due("32 no finding", first.count(8), 0);
            }
        }
        check.due("11 wrong ints", laid(0, 2, LEAST, MOST, 0, 1).read(0), 0);
        check.due("11 256 is 0 as a byte", laid(0, 0, 256, 257, 258, 259).read(0), 1);
        check.due("11 256 is 256 as a short", laid(0, 1, 256, 257, 258, 259).read(0), 0);
        check.due("11 65536 is 0 as a short", laid(0, 1, 65536, 65537, 65538, 65539).read(0), 1);
        check.due("11 65536 is itself as an int", laid(0, 2, 65536, 65537, 65538, 65539).read(0), 0);
        BittenStick y = laid(0, 2, 1, 3, 2, 7);
        Check.typeAll(y, 0, "bo");
        Check.typeAll(y, 1, "ta11;pb91");
        Check.typeAll(y, 2, "10;20;70;80");
        check.due("11 read", y.read(0), 1);
        check.due("11 its passenger and height", y.behind(0, 0, 0), 7);
        check.due("11 its height", y.behind(0, 0, 1), 2);
        check.due("11 its left one", y.behind(0, 0, 2), 8);
        check.due("11 its right one", y.behind(0, 0, 3), 7);
    }

    private static void readUntilFull() {
        int[] many = new int[60];
        for (int i = 0; i < 60; i++) {
            many[i] = i % 4 == 2 ? 7 : i % 4 == 3 ? 1 : 0;
        }
        for (int before = 0; before <= 8; before++) {
            BittenStick x = laid(3, 0, many);
            for (int i = 0; i < before; i++) {
                x.flight(0, 0, 1, 1);
            }
            check.due("11 as many as there is room for", x.read(3), 8 - before);
            check.due("11 eight", x.count(6), 8);
            check.due("11 none more", x.read(3), 0);
            check.due("10 each can be undone", x.back(), 7);
            check.due("11 one more", x.read(3), 1);
        }
    }

    private static void copies() {
        for (int from = 0; from <= 6; from++) {
            for (int to = 0; to <= 6; to++) {
                for (int n = 0; n <= 6; n++) {
                    copyOne(from, to, n, 6, 0);
                    copyOne(from, to, n, 4, 1);
                }
            }
        }
        BittenStick x = laid(0, 2, 1, 2, 3);
        lay(x, 1, 2, LEAST, MOST);
        check.due("30 all of it", x.copy(1, 0, 0, 1, 2), 1);
        check.due("30 as they were", x.get(0, 2, 1), LEAST);
        check.due("30 as they were", x.get(0, 2, 2), MOST);
        check.due("30 the other one stays", x.get(1, 2, 0), LEAST);
        x.sheet(2, 2, 0);
        check.due("30 none of none", x.copy(2, 0, 2, 0, 0), 1);
        check.due("30 one of none", x.copy(2, 0, 0, 0, 1), INDEX);
        check.due("30 one to none", x.copy(0, 0, 2, 0, 1), INDEX);
    }

    /** Copies between a sheet of six items and one of so many (s = 0: the same one), and looks at both. */
    private static void copyOne(int from, int to, int n, int size, int s) {
        BittenStick x = laid(0, 1, 11, 12, 13, 14, 15, 16);
        int[] due = {11, 12, 13, 14, 15, 16};
        if (s == 1) {
            lay(x, 1, 1, 21, 22, 23, 24);
            due = new int[] {21, 22, 23, 24};
        }
        boolean fits = from + n <= 6 && to + n <= size;
        String what = "30 " + n + " from " + from + " to " + to + " of " + size;
        check.due(what, x.copy(0, from, s, to, n), fits ? 1 : INDEX);
        for (int i = 0; i < n && fits; i++) {
            due[to + i] = 11 + from + i;
        }
        for (int i = 0; i < size; i++) {
            check.due(what + ", item " + i, x.get(s, 1, i), due[i]);
        }
    }

    private static void writes() {
        for (int n = 0; n <= 60; n += 4) {
            for (int miles = 0; miles <= 24; miles += 3) {
                BittenStick x = Check.stick("bobobobobobobobobobobobo".substring(0, miles), "ta31", "90;90");
                x.flight(0, 0, 1, 7);
                lay(x, 0, 2, new int[n]);
                int number = Math.min(n, miles);
                check.due("31 as many as " + n + " and " + miles, x.write(0, 0, 0), number);
                for (int i = 0; i < n; i++) {
                    // On mile 10 he is frozen, and hears that town no more.
                    int anger = i >= number ? 0 : i > 10 ? NONE : Math.min(15, 3 * (i / 2 + 1));
                    check.due("31 anger behind " + i, x.get(0, 2, i), anger);
                }
                check.due("31 as many", x.write(0, 1, 0), number);
                for (int i = 0; i < n; i++) {
                    int cold = i >= number ? 0 : i > 10 ? NONE : 2 * i + 2;
                    check.due("31 cold behind " + i, x.get(0, 2, i), cold);
                }
            }
        }
        BittenStick nowhere = Check.stick("ooo", "ta11", "90");
        nowhere.flight(0, 0, 1, 5);
        for (int form = 0; form < 3; form++) {
            lay(nowhere, form, form, 5, 5, 5, 5);
            check.due("31 nowhere", nowhere.write(0, form % 2, form), 3);
            for (int i = 0; i < 4; i++) {
                check.due("31 none, then as it was", nowhere.get(form, form, i), i < 3 ? NONE : 5);
            }
        }
    }

    private static void counts() {
        BittenStick x = new BittenStick();
        int[] findings = {1, 2, 3, 4, 5};
        check.due("32 before any", x.count(8), 0);
        x.lose(0);
        check.due("32 null", x.count(8), findings[0]);
        x.sheet(0, 0, 1);
        x.sheet(1, 1, 1);
        check.due("32 stays", x.count(8), findings[0]);
        x.get(0, 0, 1);
        check.due("32 index", x.count(8), findings[1]);
        x.get(0, 1, 0);
        check.due("32 cast", x.count(8), findings[2]);
        x.copy(0, 0, 1, 0, 1);
        check.due("32 store", x.count(8), findings[3]);
        x.sheet(0, 0, -1);
        check.due("32 size", x.count(8), findings[4]);
        x.read(2);
        check.due("32 the latest", x.count(8), findings[0]);
        x.count(9);
        x.undo(0);
        x.type(0, -1);
        x.get(4, 0, 0);
        check.due("32 a refusal is no finding", x.count(8), findings[0]);
    }

    /** The digest as the document tells it, out of the other calls. */
    private static long digestOf(BittenStick x) {
        long h = 17;
        for (int what = 0; what <= 7; what++) {
            h = 31 * h + x.count(what);
        }
        for (int text = 0; text <= 2; text++) {
            h = 31 * h + x.fault(text);
        }
        for (int mile = 0; mile < x.count(0); mile++) {
            h = 31 * h + x.mile(mile);
        }
        for (int p = 0; p < x.count(1); p++) {
            for (int what = 0; what <= 3; what++) {
                h = 31 * h + x.passenger(p, what);
            }
            h = 31 * (31 * h + x.sores(p)) + x.ask(p);
        }
        for (int g = 0; g < x.count(2); g++) {
            h = 31 * (31 * h + x.goose(g, 0)) + x.goose(g, 1);
        }
        for (int f = 0; f < x.count(6); f++) {
            long[] all = {x.comes(f, 0), x.comes(f, 1), x.comes(f, 2), x.behind(f, 3, 0), x.behind(f, 3, 1),
                x.behind(f, 3, 2), x.behind(f, 3, 3), x.climb(f, NONE), x.climb(f, 0), x.climb(f, 1), x.climb(f, 2),
                x.practice(f, 0), x.practice(f, 1), x.pair(f, 0), x.pair(f, 1), x.high(f), x.laugh(5, f, 0),
                x.laugh(5, f, 1)};
            for (long value : all) {
                h = 31 * h + value;
            }
        }
        h = 31 * h + x.farthest();
        return 31 * (31 * h + x.lakes(7, 30, 0)) + x.lakes(7, 30, 1);
    }

    private static void digests() {
        String[] lands = {"", "o", "bob", "wabc", "iabcw", "obaiwcdo", "abcdefabcd", "abcdefabcde",
            "oooboooooooooooooooaoooo", "abx"};
        String[] passengers = {"", "ta11", "pb32;sc91;db54", "ta11;db22;pc33;sd44;te55;df66;pa77;sb99", "ta1"};
        String[] geese = {"", "90", "93;64", "91;52;73;84;65;46;57;98", "9"};
        for (String land : lands) {
            for (int p = 0; p < passengers.length; p++) {
                for (String pair : geese) {
                    BittenStick x = Check.stick(land, passengers[p], pair);
                    check.due("33 without flights", x.digest(), digestOf(x));
                    x.flight(1, 0, 1, 6);
                    x.flight(0, 1, 0, 4);
                    x.flight(7, 7, 6, 9);
                    x.seen(0, x.comes(0, 0));
                    check.due("33 with three flights", x.digest(), digestOf(x));
                    x.learn(p);
                    x.seen(1, 4);
                    check.due("33 with what was seen", x.digest(), digestOf(x));
                }
            }
        }
        BittenStick x = Check.stick("obaiwcdo", "ta21;pb32;sc14", "93;64;55");
        check.holds("33 another seed would tell", x.lakes(7, 30, 0) != x.lakes(8, 30, 0));
        check.holds("33 another number would tell", x.lakes(7, 30, 1) != x.lakes(7, 29, 1)
                || x.lakes(7, 30, 0) != x.lakes(7, 29, 0));
        check.due("33 by another seed", x.digest(), digestOf(x));
    }
}
