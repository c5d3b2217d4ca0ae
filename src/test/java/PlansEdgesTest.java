/** The edges that sections 2 to 4 name: farthest, plans, what was seen, laughter, lakes. */
public final class PlansEdgesTest {
    private static final int NONE = -1, BAD = -2, FULL = -4;
    private static final long LONG_BAD = Long.MIN_VALUE + 2;
    private static final String OPEN = "oooooooooooooooooooooooo";
    private static final Check check = new Check("PlansEdgesTest");

    public static void main(String[] args) {
        farthest();
        climbTurns();
        climbInPlaceOfItsOwn();
        practice();
        pair();
        seen();
        seenOfWhatIsNotThere();
        soresAndHigh();
        ask();
        laughAngerAndCold();
        laughFractions();
        laughTowns();
        lakesNumbers();
        lakesLots();
        check.end();
    }

    private static BittenStick flown(String land, String passenger, String geese, int height) {
        BittenStick x = Check.stick(land, passenger, geese);
        x.flight(0, 0, 1, height);
        return x;
    }

    private static void farthest() {
        check.due("15 no flights", new BittenStick().farthest(), NONE);
        BittenStick x = Check.stick("ooob", "ta11;db11", "90;90");
        x.flight(7, 0, 1, 5);
        check.due("15 one that goes nowhere", x.farthest(), 0);
        x.flight(0, 6, 7, 5);
        check.due("15 two that go nowhere", x.farthest(), 0);
        x.flight(0, 0, 1, 4);
        check.due("15 falls on the last mile", x.farthest(), 2);
        x.flight(0, 1, 0, 1);
        check.due("15 another that falls there", x.farthest(), 2);
        x.flight(1, 0, 1, 1);
        check.due("15 arrives", x.farthest(), 4);
        x.flight(0, 0, 1, 5);
        x.flight(1, 0, 1, 2);
        check.due("15 the first that arrives", x.farthest(), 4);
        x.flight(1, 1, 0, 2);
        check.due("15 the first of eight", x.farthest(), 4);
        for (int back = 0; back < 4; back++) {
            x.back();
        }
        check.due("15 those that arrive are undone", x.farthest(), 2);
        x.learn(2);
        check.due("15 what is learned counts", x.farthest(), 2);
        check.due("13 for it arrives now", x.comes(2, 1), 0);
        BittenStick none = Check.stick("", "ta11", "90;90");
        none.flight(1, 0, 1, 5);
        none.flight(0, 0, 1, 5);
        none.flight(0, 1, 0, 5);
        check.due("15 no miles: who arrives at once is ahead", none.farthest(), 1);
        none.type(1, ';');
        check.due("15 none arrives: the least", none.farthest(), 0);
    }

    private static void climbs(String what, BittenStick x, int far, int height, int mile, int other) {
        check.due("16 far: " + what, x.climb(0, NONE), far);
        check.due("16 height: " + what, x.climb(0, 0), height);
        check.due("16 mile: " + what, x.climb(0, 1), mile);
        check.due("16 other: " + what, x.climb(0, 2), other);
    }

    private static void climbTurns() {
        // The towns on miles 0 and 22 want 6 or more of a proud one; behind the island twenty miles at 6 are borne.
        climbs("the last mile on which he may turn", flown("boi" + OPEN.substring(0, 19) + "bo", "pa11", "90;90", 9),
                24, 6, 23, 1);
        climbs("one mile less wants no turn", flown("boi" + OPEN.substring(0, 19) + "b", "pa11", "90;90", 9),
                23, 6, 1, 6);
        climbs("the first mile on which he may turn", flown("b" + OPEN.substring(0, 20), "pb11", "90;90", 1),
                21, 8, 1, 1);
        climbs("as soon as the towns are behind him", flown("boa" + OPEN.substring(0, 18), "pb11", "90;90", 1),
                21, 9, 3, 1);
        climbs("one mile: no turn is reached", flown("b", "tb11", "90;90", 9), 1, 8, 1, 1);
        climbs("one mile that none bears", flown("b", "ta19", "40;90", 9), 0, 1, 1, 1);
        climbs("24 open miles", flown(OPEN, "ta11", "90;90", 9), 24, 1, 1, 1);
        climbs("as far as the geese carry", flown(OPEN, "ta19", "62;90", 9), 3, 1, 1, 1);
        climbs("no miles", flown("", "ta11", "90;90", 9), 0, 1, 1, 1);
        climbs("no passenger", flown(OPEN, "", "90;90", 9), 0, 1, 1, 1);
        climbs("the highest from mile 1 on", flown("oaa", "ta11", "90;90", 1), 3, 1, 1, 9);
        climbs("the highest, then the lowest", flown("aaooooo", "ta11", "90;90", 1), 7, 9, 2, 1);
    }

    private static void climbInPlaceOfItsOwn() {
        for (int height = 1; height <= 9; height++) {
            climbs("whatever its own height", flown("aoa", "tb11", "90;90", height), 3, 6, 1, 9);
        }
        BittenStick x = flown("aoa", "tb11", "90;90", 3);
        x.learn(62);
        climbs("others are learned", x, 3, 6, 1, 9);
        x.learn(1);
        climbs("the call is learned", x, 3, 1, 1, 1);
        check.due("13 its own height stays", x.behind(0, 2, 1), 0);
    }

    private static void practices(String what, BittenStick x, int number, int bits) {
        check.due("17 number: " + what, x.practice(0, 0), number);
        check.due("17 bits: " + what, x.practice(0, 1), bits);
    }

    private static void practice() {
        practices("nothing to learn", flown(OPEN, "ta11", "90;90", 5), 0, 0);
        practices("the last call", flown("ff", "ta11", "90;90", 5), 1, 32);
        practices("all but one", flown("abcdef", "tf11", "90;90", 5), 5, 47);
        practices("all six", flown("abcdef", "tf11", "90;90", 1), 6, 63);
        practices("two of three, the least", flown("bcd", "ta11", "90;90", 5), 2, 2 + 4);
        practices("two, not the least bits of all", flown("ccddb", "ta11", "90;90", 5), 2, 4 + 8);
        practices("a deaf one need not", flown("abcdef", "da11", "90;90", 1), 0, 0);
        practices("not carried", flown("ab", "ta19", "90;10", 5), NONE, NONE);
        practices("not carried at the end", flown("oob", "ta19", "53;90", 5), NONE, NONE);
        practices("frozen", flown("bbbbbb", "ta11", "90;90", 9), NONE, NONE);
        practices("nowhere", flown("o", "", "", 5), NONE, NONE);
        BittenStick x = flown("bc", "ta11", "90;90", 5);
        x.learn(63);
        practices("though all are learned", x, 1, 2);
        check.due("17 and stay so", x.learn(63), 63);
    }

    private static void pairs(String what, BittenStick x, int which, int far) {
        check.due("18 which: " + what, x.pair(0, 0), which);
        check.due("18 far: " + what, x.pair(0, 1), far);
    }

    private static void pair() {
        pairs("no geese", flown("o", "ta11", "", 5), NONE, NONE);
        pairs("one goose", flown("o", "ta11", "90", 5), NONE, NONE);
        pairs("just two", flown("o", "ta11", "90;90", 5), 1, 1);
        pairs("just two, the other way", flown("o", "ta19", "40;50", 5), 8, 1);
        pairs("none carries: the least row", flown("o", "ta19", "10;10;10", 5), 1, 0);
        pairs("not one with itself", flown("o", "ta19", "10;90;10", 5), 1, 0);
        pairs("the greatest row", flown(OPEN, "ta19", "10;10;10;10;10;10;40;50", 5), 62, 24);
        pairs("one row ahead of it", flown(OPEN, "ta19", "10;10;10;10;10;40;10;50", 5), 61, 24);
        pairs("the right one as well", flown(OPEN, "ta19", "90;51;52;40", 5), 3, 24);
        pairs("no passenger: the least row, nowhere", flown("o", "", "10;10;90", 5), 1, 0);
        pairs("no miles", flown("", "ta19", "10;10;90", 5), 1, 0);
        int[][] own = {{0, 1}, {1, 0}, {2, 3}, {7, 0}, {0, 7}, {6, 7}};
        for (int[] pair : own) {
            BittenStick x = Check.stick("ow", "ta19", "40;50;50");
            x.flight(0, pair[0], pair[1], 5);
            pairs("whichever its own", x, 8 + 2, 2);
        }
    }

    private static void seen() {
        BittenStick x = new BittenStick();
        check.due("19 the least", x.seen(0, 0), 1);
        check.due("19 the greatest", x.seen(7, 24), 2);
        for (int n = 3; n <= 8; n++) {
            check.due("19 again the same", x.seen(7, 24), n);
        }
        check.due("19 a ninth", x.seen(0, 0), FULL);
        check.due("19 bad ahead of full", x.seen(0, 25), BAD);
        check.due("19 bad ahead of full", x.seen(-1, 0), BAD);
        check.due("20 all eight", x.forget(), 8);
        check.due("20 none is left", x.forget(), 0);
        check.due("19 from the first on", x.seen(0, 24), 1);
        BittenStick far = flown(OPEN, "ta11", "90;90", 5);
        far.seen(0, 24);
        check.due("21 who arrives behind mile 23 comes to 24", far.sores(0), 63);
        check.due("22 from 1 to 5", far.high(0), 2 + 4 + 8 + 16 + 32);
        far.undo(0);
        check.due("21 a mile that there is not", far.sores(0), 0);
        check.due("22 a mile that there is not", far.high(0), 0);
        far.forget();
        far.seen(0, 23);
        check.due("21 who arrives behind mile 22 comes to 23", far.sores(0), 63);
    }

    private static void seenOfWhatIsNotThere() {
        BittenStick x = Check.stick("oo", "ta11", "90;90");
        x.seen(7, 2);
        check.due("21 no such flight", x.sores(0), 0);
        for (int flight = 0; flight < 8; flight++) {
            check.due("9 flight", x.flight(0, 0, 1, 5), flight + 1);
            check.due("21 the eighth alone came so", x.sores(0), flight == 7 ? 63 : 0);
            check.due("22 the eighth alone came so", x.high(0), flight == 7 ? 1022 : 0);
        }
        x.back();
        check.due("21 undone", x.sores(0), 0);
        check.due("22 undone", x.high(0), 0);
        BittenStick nowhere = Check.stick("", "ta11", "90;90");
        nowhere.seen(0, 0);
        check.due("21 mile 0, yet no flight", nowhere.sores(0), 0);
        nowhere.flight(5, 0, 1, 5);
        check.due("21 a flight of what is not there comes to mile 0", nowhere.sores(0), 63);
        check.due("22 at any height", nowhere.high(0), 1022);
        nowhere.seen(0, 1);
        check.due("21 and not to mile 1, too", nowhere.sores(0), 0);
        check.due("22 and not to mile 1, too", nowhere.high(0), 0);
    }

    private static void soresAndHigh() {
        BittenStick x = Check.stick("bcd", "ta11;td11", "90;90");
        x.flight(0, 0, 1, 8);
        x.flight(0, 0, 1, 5);
        x.flight(1, 0, 1, 5);
        check.due("21 nothing was seen", x.sores(0), 63);
        check.due("22 nothing was seen", x.high(2), 1022);
        x.seen(1, 1);
        check.due("21 not b, which he does not bear on mile 0", x.sores(0), 63 - 2);
        check.due("21 another's, as it is", x.sores(1), 63);
        x.seen(0, 2);
        check.due("21 nor c, by which he came but to mile 1", x.sores(0), 63 - 2 - 4);
        x.forget();
        x.seen(1, 0);
        check.due("21 b alone", x.sores(0), 2);
        check.due("21 of another: not so, whatever is his", x.sores(1), 0);
        x.learn(2);
        check.due("21 b is learned", x.sores(0), 0);
        x.learn(0);
        x.forget();
        // Twice 10 less the height is above 5 up to height 7; over the third town three times that, up to 8.
        x.seen(0, 1);
        check.due("22 5 to 7", x.high(0), 32 + 64 + 128);
        check.due("22 of another: the first did not come so", x.high(1), 0);
        x.forget();
        x.seen(0, 3);
        check.due("22 9 alone", x.high(0), 512);
        x.forget();
        x.seen(0, 2);
        check.due("22 8 alone, its own", x.high(0), 256);
        check.due("22 of another, so the first as it is", x.high(2), 1022);
        x.forget();
        x.seen(0, 0);
        check.due("22 1 to 4", x.high(0), 2 + 4 + 8 + 16);
    }

    private static void ask() {
        BittenStick x = Check.stick("abcdef", "ta11;tb19", "50;90");
        check.due("23 no flights", x.ask(0), NONE);
        check.due("23 no flights", x.ask(1), NONE);
        x.flight(0, 7, 1, 5);
        check.due("23 one that goes nowhere", x.ask(0), 0);
        x.flight(0, 0, 1, 5);
        check.due("23 five alike rather than six", x.ask(0), 1);
        x.flight(0, 1, 0, 5);
        check.due("23 of like ones the least", x.ask(0), 1);
        x.flight(1, 0, 1, 5);
        check.due("23 another's tells nothing", x.ask(0), 1);
        check.due("23 his own", x.ask(1), 3);
        x.seen(1, 0);
        check.due("23 one sore is left: all alike", x.ask(0), 0);
        x.seen(1, 1);
        check.due("23 none is left: all alike", x.ask(0), 0);
        x.forget();
        x.seen(1, 1);
        check.due("23 five are left, and come alike", x.ask(0), 0);
        for (int flight = 3; flight >= 0; flight--) {
            x.back();
        }
        check.due("23 none again", x.ask(0), NONE);
        // The first flight leaves all six on mile 0; the second leaves one there and five behind it.
        BittenStick first = Check.stick("abcdef", "ta18", "30;90;90");
        first.flight(0, 0, 1, 5);
        first.flight(0, 1, 2, 5);
        check.due("23 mile 0 of another flight does not count", first.ask(0), 1);
    }

    private static void chance(String what, BittenStick x, int c, long above, long below) {
        check.due("24 above: " + what, x.laugh(c, 0, 0), above);
        check.due("24 below: " + what, x.laugh(c, 0, 1), below);
    }

    private static void laughAngerAndCold() {
        chance("45 is borne by temper 9", flown("bbbbb", "ta91", "90;90", 1), 16, 1, 1);
        chance("54 is not", flown("bbbbbb", "ta91", "90;90", 1), 16, 0, 1);
        chance("54 is not", flown("bbbbbb", "ta91", "90;90", 1), 8, 63, 64);
        chance("46, of a proud one, is not", flown("bbbbbb", "pa91", "90;90", 2), 16, 0, 1);
        chance("calm behind an island at 9", flown("bib", "ta11", "90;90", 9), 8, 1, 1);
        chance("calm behind two islands at 9", flown("biobib", "ta11", "90;90", 9), 16, 1, 1);
        chance("no cold at 5", flown(OPEN, "ta11", "90;90", 5), 8, 1, 1);
        chance("no cold at 1", flown(OPEN, "ta11", "90;90", 1), 8, 1, 1);
        chance("cold 20 at 6", flown(OPEN.substring(0, 20), "ta11", "90;90", 6), 8, 1, 1);
        chance("cold 21 at 6", flown(OPEN.substring(0, 21), "ta11", "90;90", 6), 8, 0, 1);
        chance("warm on an island, then 20", flown("i" + OPEN.substring(0, 20), "ta11", "90;90", 6), 8, 1, 1);
        chance("warm on an island, then 21", flown("i" + OPEN.substring(0, 21), "ta11", "90;90", 6), 8, 0, 1);
        chance("frozen on an island", flown("oooooi", "ta11", "90;90", 9), 0, 0, 1);
        chance("not carried on the last mile", flown("oob", "ta19", "53;90", 5), 0, 0, 1);
        chance("a sleepy one at 7", flown("aaaaa", "sa11", "90;90", 7), 16, 1, 1);
        chance("a sleepy one at 6", flown("a", "sa11", "90;90", 6), 16, 0, 1);
        chance("a sleepy one at 6, by half", flown("a", "sa11", "90;90", 6), 8, 1, 2);
        chance("a proud one at 5", flown("b", "pa11", "90;90", 5), 4, 3, 4);
        BittenStick both = Check.stick("bbibb", "ta11;pa11", "90;90");
        both.flight(0, 0, 1, 5);
        both.flight(1, 0, 1, 5);
        check.due("24 one flight", both.laugh(8, 0, 1), 16);
        check.due("24 then the other", both.laugh(8, 1, 0), 1);
        check.due("24 then the other", both.laugh(8, 1, 1), 16);
        check.due("24 and the first again", both.laugh(8, 0, 0), 9);
    }

    private static void laughFractions() {
        for (int c = 0; c <= 16; c++) {
            int shared = c == 0 || c == 16 ? 16 : c % 8 == 0 ? 8 : c % 4 == 0 ? 4 : c % 2 == 0 ? 2 : 1;
            chance("one that is not borne, " + c, flown("a", "ta11", "90;90", 5), c, (16 - c) / shared, 16 / shared);
            chance("one that is borne, " + c, flown("b", "ta11", "90;90", 5), c, 1, 1);
            chance("nowhere, " + c, flown("a", "ta11", "90", 5), c, 0, 1);
            chance("no miles, " + c, flown("", "ta11", "90;90", 5), c, 1, 1);
        }
        chance("two of two in lowest terms", flown("bb", "ta11", "90;90", 5), 12, 7, 16);
        chance("two of two, by 2", flown("bb", "ta11", "90;90", 5), 2, 63, 64);
        BittenStick x = flown("bbc", "ta11", "90;90", 5);
        x.learn(2);
        chance("b is learned", x, 16, 1, 1);
        x.learn(4);
        chance("c is learned", x, 8, 3, 4);
        x.learn(6);
        chance("both are learned", x, 16, 1, 1);
    }

    private static void laughTowns() {
        String ten = "aiaiaiaiaiaiaiaiaiai";
        chance("ten towns, nearly sure to fall", flown(ten, "ta11", "90;90", 5), 15, 1, 1099511627776L);
        chance("ten towns, nearly sure to arrive", flown(ten, "tb11", "90;90", 5), 15, 1, 1);
        chance("ten towns, always", flown(ten, "ta11", "90;90", 5), 16, 0, 1);
        chance("ten towns, never", flown(ten, "ta11", "90;90", 5), 0, 1, 1);
        chance("ten towns of 24 miles", flown(ten + "oiwo", "ta11", "90;90", 5), 8, 1, 1024);
        chance("eleven towns", flown(ten + "b", "ta11", "90;90", 5), 8, LONG_BAD, LONG_BAD);
        chance("eleven towns at the end", flown(ten + "oiwb", "ta11", "90;90", 5), 8, LONG_BAD, LONG_BAD);
        chance("eleven towns that none hears", flown("abcdefabcde", "da11", "90;90", 5), 0, LONG_BAD, LONG_BAD);
        chance("eleven towns, nowhere", flown("abcdefabcde", "", "", 5), 8, LONG_BAD, LONG_BAD);
        chance("24 towns", flown("abcdefabcdefabcdefabcdef", "ta11", "90;90", 5), 8, LONG_BAD, LONG_BAD);
        BittenStick x = flown(ten + "f", "ta11", "90;90", 5);
        x.undo(0);
        chance("ten again", x, 8, 1, 1024);
    }

    private static void lakesNumbers() {
        BittenStick x = Check.stick("oooooo", "ta11", "90;90");
        int[] seeds = {0, 1, -1, 7, Integer.MIN_VALUE, Integer.MAX_VALUE, 0x7fff0000, 0x80000001};
        for (int seed : seeds) {
            int arrive = 0;
            for (int n = 1; n <= 99; n++) {
                // Six miles at height 9 alone are too cold.
                arrive += lot(seed, 4 * n, 9) == 8 ? 0 : 1;
                check.due("25 arrive of " + n + " by " + seed, x.lakes(seed, n, 0), arrive);
            }
            check.due("25 frozen is not spoken", x.lakes(seed, 99, 1), 0);
            check.due("25 the same again", x.lakes(seed, 99, 0), arrive);
            check.due("25 none", x.lakes(seed, 0, 0), BAD);
            check.due("25 a hundred", x.lakes(seed, 100, 0), BAD);
        }
        check.due("25 no passengers", Check.stick("o", "", "90;90").lakes(1, 1, 0), 0);
        check.due("25 no passengers", Check.stick("b", "", "90;90").lakes(1, 99, 1), 0);
        check.due("25 no geese", Check.stick("o", "ta11", "").lakes(1, 99, 0), 0);
        check.due("25 one goose", Check.stick("o", "ta11", "90").lakes(1, 99, 0), 0);
        check.due("25 nothing at all", new BittenStick().lakes(1, 99, 0), 0);
        check.due("25 no miles: all arrive", Check.stick("", "ta11", "10;10").lakes(1, 99, 0), 99);
        check.due("25 no miles: none speaks", Check.stick("", "ta11", "10;10").lakes(1, 99, 1), 0);
    }

    /** Each lake draws four lots: a passenger, a left one, a right one of those that are left, a height. */
    private static void lakesLots() {
        int[] seeds = {0, 9, -77, Integer.MIN_VALUE, Integer.MAX_VALUE};
        for (int seed : seeds) {
            // The first and the last passenger are too heavy for any two.
            BittenStick light = Check.stick("o", "ta19;ta11;ta19", "20;20");
            check.due("25 the passenger by " + seed, light.lakes(seed, 99, 0), lakesWith(seed, 3, 1, 2, 0, -1));
            // Goose 0 on the left and goose 2 on the right alone carry.
            BittenStick second = Check.stick("o", "ta19", "50;30;40");
            check.due("25 the second of those left", second.lakes(seed, 99, 0), lakesWith(seed, 1, 0, 3, 0, 2));
            BittenStick middle = Check.stick("o", "ta19", "40;50;30");
            check.due("25 the first of those left", middle.lakes(seed, 99, 0), lakesWith(seed, 1, 0, 3, 1, 0));
            BittenStick behind = Check.stick("o", "ta19", "30;50;40");
            check.due("25 behind the left one", behind.lakes(seed, 99, 0), lakesWith(seed, 1, 0, 3, 1, 2));
            BittenStick eight = Check.stick("o", "ta19", "30;30;30;30;30;30;40;50");
            check.due("25 the last of eight", eight.lakes(seed, 99, 0), lakesWith(seed, 1, 0, 8, 7, 6));
        }
    }

    /** How many of 99 lakes draw that passenger and that pair; of two geese all pairs will do. */
    private static int lakesWith(int seed, int passengers, int passenger, int geese, int left, int right) {
        int number = 0;
        for (int lake = 0; lake < 99; lake++) {
            int drawnLeft = (int) lot(seed, 4 * lake + 2, geese);
            int drawnRight = (int) lot(seed, 4 * lake + 3, geese - 1);
            int others = -1;
            int meant = -1;
            for (int goose = 0; goose < geese; goose++) {
                others += goose == drawnLeft ? 0 : 1;
                meant = meant < 0 && others == drawnRight && goose != drawnLeft ? goose : meant;
            }
            boolean pair = geese == 2 || drawnLeft == left && meant == right;
            number += lot(seed, 4 * lake + 1, passengers) == passenger && pair ? 1 : 0;
        }
        return number;
    }

    /** The n-th lot (1 on) of m by a seed, reckoned in longs. */
    private static long lot(int seed, int n, int m) {
        long all = 1L << 32;
        long s = Math.floorMod((long) seed, all);
        for (int i = 0; i < n; i++) {
            s = (1103515245L * s + 12345L) % all;
        }
        return s / 65536 % m;
    }
}
