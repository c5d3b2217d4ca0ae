/** Promises 19 to 25: what was seen, laughter by chance, lakes by a seed. */
public final class SeenPromisesTest {
    private static final int NONE = -1, BAD = -2, FULL = -4;
    private static final long LONG_BAD = Long.MIN_VALUE + 2;
    private static final Check check = new Check("SeenPromisesTest");

    public static void main(String[] args) {
        seenAndForget();
        sores();
        high();
        sidesOfWhatWasSeen();
        ask();
        laugh();
        lakes();
        check.end();
    }

    private static void seenAndForget() {
        BittenStick x = new BittenStick();
        check.due("19 bad", x.seen(-1, 0), BAD);
        check.due("19 bad", x.seen(8, 0), BAD);
        check.due("19 bad", x.seen(0, -1), BAD);
        check.due("19 bad", x.seen(0, 25), BAD);
        check.due("20 none", x.forget(), 0);
        for (int i = 0; i < 8; i++) {
            check.due("19 seen", x.seen(i, 24 - i), i + 1);
        }
        check.due("19 full", x.seen(0, 0), FULL);
        check.due("19 bad ahead of full", x.seen(8, 0), BAD);
        check.due("19 count", x.count(7), 8);
        check.due("20 forget", x.forget(), 8);
        check.due("20 count", x.count(7), 0);
        check.due("19 again", x.seen(0, 24), 1);
    }

    /** Passenger 0 bears 5 and flies at height 5: his sore alone makes him speak over the first of it. */
    private static BittenStick tour() {
        BittenStick x = Check.stick("aibicidieifi", "ta11;tb11;db11", "90;90");
        x.flight(0, 0, 1, 5);
        x.flight(1, 0, 1, 5);
        return x;
    }

    private static void sores() {
        BittenStick x = tour();
        check.due("21 nothing was seen", x.sores(0), 63);
        check.due("21 bad", x.sores(3), BAD);
        check.due("21 bad", x.sores(-1), BAD);
        for (int call = 0; call < 6; call++) {
            x.seen(0, 2 * call);
            check.due("21 sore " + call, x.sores(0), 1 << call);
            x.forget();
        }
        x.seen(0, 12);
        check.due("21 he never arrives", x.sores(0), 0);
        x.forget();
        x.seen(1, 2);
        check.due("21 another one's flight, as it is", x.sores(0), 63);
        check.due("21 his own", x.sores(1), 2);
        x.seen(0, 6);
        check.due("21 both, of one", x.sores(0), 8);
        check.due("21 both, of the other, for the first is not so", x.sores(1), 0);
        x.forget();
        x.seen(2, 0);
        check.due("21 a flight that is not there", x.sores(0), 0);
        x.flight(2, 0, 1, 5);
        check.due("21 a flight that did not come so", x.sores(0), 0);
        x.forget();
        x.seen(2, 12);
        check.due("21 a deaf one", x.sores(2), 63);
        BittenStick y = Check.stick("ooo", "ta11", "90");
        y.flight(0, 0, 1, 5);
        y.seen(0, 0);
        check.due("21 nowhere comes to mile 0", y.sores(0), 63);
        y.seen(0, 1);
        check.due("21 and not to another", y.sores(0), 0);
    }

    private static void high() {
        BittenStick x = Check.stick("boooooooo", "ta11", "90;90");
        x.flight(0, 0, 1, 9);
        x.flight(0, 1, 0, 9);
        check.due("22 nothing was seen", x.high(0), 1022);
        check.due("22 bad", x.high(2), BAD);
        check.due("22 bad", x.high(-1), BAD);
        x.seen(0, 0);
        check.due("22 spoke over the first", x.high(0), 2 + 4 + 8 + 16);
        x.forget();
        x.seen(0, 9);
        check.due("22 arrives", x.high(0), 32 + 64 + 128);
        x.forget();
        x.seen(0, 5);
        check.due("22 frozen", x.high(0), 512);
        check.due("22 not its own flight, as it is", x.high(1), 1022);
        x.forget();
        x.seen(0, 6);
        check.due("22 frozen later", x.high(0), 256);
        check.due("22 not so", x.high(1), 0);
        x.seen(0, 9);
        check.due("22 not both", x.high(0), 0);
        x.forget();
        x.seen(0, 24);
        check.due("22 a mile that is not there", x.high(0), 0);
        x.forget();
        x.seen(3, 0);
        check.due("22 a flight that is not there", x.high(0), 0);
    }

    /** Of a weight of 9 the left one bears 5 and the right one 4, so the same geese carry by one order alone. */
    private static void sidesOfWhatWasSeen() {
        BittenStick x = Check.stick("oo", "ta99", "50;40");
        x.flight(0, 0, 1, 5);
        x.flight(0, 1, 0, 5);
        x.seen(0, 2);
        x.seen(1, 0);
        check.due("21 each by its own sides", x.sores(0), 63);
        check.due("22 each by its own sides", x.high(0), 1022);
        x.forget();
        x.seen(0, 0);
        check.due("21 the strong one was on the left", x.sores(0), 0);
        check.due("22 the strong one was on the left", x.high(0), 0);
        x.forget();
        x.seen(1, 2);
        check.due("21 the strong one was on the right", x.sores(0), 0);
        check.due("22 the strong one was on the right", x.high(1), 0);
    }

    private static void ask() {
        BittenStick x = Check.stick("aibicidieifi", "ta11;tb91", "90;90");
        check.due("23 no flights", x.ask(0), NONE);
        check.due("23 bad", x.ask(2), BAD);
        check.due("23 bad", x.ask(-1), BAD);
        x.flight(1, 0, 1, 5);
        check.due("23 another one's flight", x.ask(0), 0);
        x.flight(0, 0, 1, 9);
        x.flight(0, 0, 1, 5);
        x.flight(0, 1, 0, 5);
        check.due("23 the one that tells all six apart", x.ask(0), 2);
        check.due("23 none tells", x.ask(1), 0);
        x.seen(2, 4);
        check.due("23 one is left: all alike", x.ask(0), 0);
        x.seen(2, 6);
        check.due("23 none is left: all alike", x.ask(0), 0);
        BittenStick y = Check.stick("aib", "tc11", "90;90");
        y.flight(0, 0, 1, 9);
        y.flight(0, 0, 1, 6);
        y.flight(0, 0, 1, 5);
        check.due("23 groups of 1, 1 and 4", y.ask(0), 1);
        y.back();
        y.back();
        check.due("23 the only flight", y.ask(0), 0);
        // Two passengers over all the miles: the deaf one's flight tells nothing, the other tells a from the rest.
        BittenStick far = Check.stick("aooooooooooooooooooooooo", "tb11;da11", "90;90");
        far.flight(1, 0, 1, 5);
        far.flight(0, 0, 1, 5);
        check.due("23 groups that arrive", far.ask(0), 1);
    }

    private static void chance(String what, BittenStick x, int c, long above, long below) {
        check.due("24 above: " + what, x.laugh(c, 0, 0), above);
        check.due("24 below: " + what, x.laugh(c, 0, 1), below);
    }

    private static BittenStick flown(String land, String passengers, String geese, int height) {
        BittenStick x = Check.stick(land, passengers, geese);
        x.flight(0, 0, 1, height);
        return x;
    }

    private static void laugh() {
        BittenStick x = flown("bb", "ta11", "90;90", 5);
        chance("both call", x, 4, 15, 16);
        chance("both call", x, 1, 255, 256);
        chance("both call", x, 8, 3, 4);
        chance("never", x, 0, 1, 1);
        chance("always", x, 16, 0, 1);
        x.learn(2);
        chance("learned", x, 16, 1, 1);
        check.due("24 bad", x.laugh(-1, 0, 0), LONG_BAD);
        check.due("24 bad", x.laugh(17, 0, 0), LONG_BAD);
        check.due("24 bad", x.laugh(8, 1, 0), LONG_BAD);
        check.due("24 bad", x.laugh(8, -1, 0), LONG_BAD);
        check.due("24 bad", x.laugh(8, 0, 2), LONG_BAD);
        check.due("24 bad", x.laugh(8, 0, -1), LONG_BAD);
        chance("calm on an island", flown("bibib", "ta11", "90;90", 5), 16, 1, 1);
        chance("an island between", flown("bbibb", "ta11", "90;90", 5), 4, 225, 256);
        chance("deaf", flown("bb", "da11", "90;90", 5), 16, 1, 1);
        chance("the sore alone", flown("aibib", "ta11", "90;90", 5), 3, 13, 16);
        chance("the sore, nearly always", flown("a", "ta11", "90;90", 5), 15, 1, 16);
        chance("the sore, always", flown("a", "ta11", "90;90", 5), 16, 0, 1);
        chance("not carried", flown("b", "ta19", "90;10", 5), 8, 0, 1);
        chance("nowhere", flown("o", "ta11", "90", 5), 8, 0, 1);
        chance("frozen", flown("bboooo", "ta11", "90;90", 9), 0, 0, 1);
        chance("just not frozen", flown("bbooo", "ta11", "90;90", 9), 16, 1, 1);
        chance("just not frozen, rested", flown("ooooibbooo", "ta11", "90;90", 9), 16, 1, 1);
        chance("two of four", flown("bbobb", "tb11", "90;90", 9), 8, 11, 16);
        chance("by 1 and by 2", flown("abbba", "ta11", "90;90", 9), 8, 7, 8);
        chance("no miles", flown("", "ta11", "90;90", 5), 8, 1, 1);
        BittenStick ten = flown("aiaiaiaiaiaiaiaiaia", "ta11", "90;90", 5);
        chance("ten towns", ten, 1, 576650390625L, 1099511627776L);
        ten.type(0, 'f');
        chance("eleven towns", ten, 1, LONG_BAD, LONG_BAD);
        ten.learn(63);
        chance("eleven towns, learned", ten, 1, LONG_BAD, LONG_BAD);
        ten.type(0, 'x');
        chance("a fault: no miles", ten, 1, 1, 1);
    }

    private static void lakes() {
        BittenStick x = Check.stick("oooooo", "ta11", "90;90");
        check.due("25 bad", x.lakes(1, 0, 0), BAD);
        check.due("25 bad", x.lakes(1, 100, 0), BAD);
        check.due("25 bad", x.lakes(1, 1, 2), BAD);
        check.due("25 bad", x.lakes(1, 1, -1), BAD);
        for (int seed = -20; seed < 20; seed++) {
            check.due("25 heights 1 to 8 arrive", x.lakes(seed * 12345678, 99, 0), 99 - drawn(seed * 12345678, 9));
            check.due("25 none speaks", x.lakes(seed * 12345678, 99, 1), 0);
        }
        check.due("25 once", x.lakes(1, 1, 0), 1);
        BittenStick three = Check.stick("o", "ta19", "50;40;30");
        check.due("25 goose 0 on the left, 1 on the right", three.lakes(9, 99, 0), drawnPairs(9, 3, 0, 1));
        BittenStick last = Check.stick("o", "ta19", "30;40;50");
        check.due("25 goose 2 on the left, 1 on the right", last.lakes(9, 99, 0), drawnPairs(9, 3, 2, 1));
        BittenStick town = Check.stick("b", "ta11", "90;90");
        int low = drawn(7, 1) + drawn(7, 2) + drawn(7, 3) + drawn(7, 4);
        check.due("25 heights 1 to 4 speak", town.lakes(7, 99, 1), low);
        check.due("25 heights 5 to 9 arrive", town.lakes(7, 99, 0), 99 - low);
        town.learn(2);
        check.due("25 learned", town.lakes(7, 99, 0), 99);
        check.due("25 no passengers", Check.stick("o", "", "90;90").lakes(1, 99, 0), 0);
        check.due("25 no two geese", Check.stick("o", "ta11", "90").lakes(1, 99, 0), 0);
        check.due("25 no two geese", Check.stick("o", "ta11", "90").lakes(1, 99, 1), 0);
        check.due("25 no miles", Check.stick("", "ta11", "90;90").lakes(1, 99, 0), 99);
        check.due("25 bad, though there are none", Check.stick("", "", "").lakes(1, 100, 0), BAD);
    }

    /** How often two geese are drawn in 99 lakes with one passenger. */
    private static int drawnPairs(int seed, int geese, int left, int right) {
        int number = 0;
        int s = seed;
        for (int lake = 0; lake < 99; lake++) {
            s = 1103515245 * s + 12345;
            s = 1103515245 * s + 12345;
            int first = (s >>> 16) % geese;
            s = 1103515245 * s + 12345;
            int second = (s >>> 16) % (geese - 1);
            s = 1103515245 * s + 12345;
            if (first == left && second + (second >= first ? 1 : 0) == right) {
                number++;
            }
        }
        return number;
    }

    /** How often a height is drawn in 99 lakes with one passenger and two geese. */
    private static int drawn(int seed, int height) {
        int number = 0;
        int s = seed;
        for (int lot = 0; lot < 4 * 99; lot++) {
            s = 1103515245 * s + 12345;
            if (lot % 4 == 3 && (s >>> 16) % 9 + 1 == height) {
                number++;
            }
        }
        return number;
    }
}
