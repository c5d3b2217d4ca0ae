/** Promises 13 to 18: how a flight goes, and plans. */
public final class FlightPromisesTest {
    private static final int NONE = -1, BAD = -2;
    private static final Check check = new Check("FlightPromisesTest");

    public static void main(String[] args) {
        halvesOfWeight();
        wind();
        tiring();
        island();
        cold();
        anger();
        learned();
        orderOfFalls();
        nowhere();
        wrongInputs();
        farthest();
        climb();
        practice();
        pair();
        check.end();
    }

    private static BittenStick flown(String land, String passenger, String geese, int height) {
        BittenStick x = Check.stick(land, passenger, geese);
        x.flight(0, 0, 1, height);
        return x;
    }

    private static void ends(String what, BittenStick x, int mile, int how, int call) {
        check.due("13 mile: " + what, x.comes(0, 0), mile);
        check.due("13 how: " + what, x.comes(0, 1), how);
        check.due("13 call: " + what, x.comes(0, 2), call);
    }

    private static void behind(String what, BittenStick x, int mile, int anger, int cold, int left, int right) {
        check.due("14 anger: " + what, x.behind(0, mile, 0), anger);
        check.due("14 cold: " + what, x.behind(0, mile, 1), cold);
        check.due("14 left: " + what, x.behind(0, mile, 2), left);
        check.due("14 right: " + what, x.behind(0, mile, 3), right);
    }

    private static void halvesOfWeight() {
        ends("just carried", flown("oooo", "ta19", "50;40", 5), 4, 0, NONE);
        ends("the left is weak", flown("oooo", "ta19", "40;90", 5), 0, 1, NONE);
        ends("the right is weak", flown("oooo", "ta19", "90;30", 5), 0, 1, NONE);
        ends("an even weight", flown("oo", "ta18", "40;40", 5), 2, 0, NONE);
        ends("an even weight, too much", flown("oo", "ta18", "40;30", 5), 0, 1, NONE);
        ends("not carried over a town", flown("co", "ta19", "40;90", 5), 0, 1, 2);
    }

    private static void wind() {
        BittenStick x = flown("owo", "ta19", "50;40", 5);
        ends("turned", x, 1, 1, NONE);
        behind("ahead of the wind", x, 0, 0, 0, 5, 4);
        behind("in the wind", x, 1, 0, 0, 4, 5);
        behind("fallen", x, 2, NONE, NONE, NONE, NONE);
        BittenStick twice = flown("wow", "ta19", "40;50", 5);
        ends("turned back", twice, 2, 1, NONE);
        behind("turned back", twice, 2, 0, 0, 4, 5);
    }

    private static void tiring() {
        BittenStick x = flown("oooo", "ta19", "52;40", 5);
        ends("tired", x, 1, 1, NONE);
        behind("not yet tired", x, 0, 0, 0, 5, 4);
        behind("tired", x, 1, 0, 0, 4, 4);
        ends("each second mile", flown("oooooooooooooooooooooooo", "ta19", "92;90", 5), 9, 1, NONE);
        ends("by nine", flown("oooooooooooooooooooooooo", "ta19", "69;50", 5), 17, 1, NONE);
        // Below a weight of 1 the right one need not be strong at all, yet not less than that.
        BittenStick light = flown("ooo", "ta11", "10;11", 5);
        ends("weaker than none", light, 1, 1, NONE);
        behind("none", light, 0, 0, 0, 1, 0);
        // A goose takes along how far it has flown when the wind turns the pair.
        BittenStick turned = flown("owoo", "ta12", "93;92", 5);
        behind("turned", turned, 1, 0, 0, 8, 9);
        behind("turned", turned, 2, 0, 0, 8, 8);
        behind("turned", turned, 3, 0, 0, 7, 8);
    }

    private static void island() {
        BittenStick x = flown("ooio", "ta11", "32;90", 5);
        behind("tired", x, 1, 0, 0, 2, 9);
        behind("rested, not above what was told", x, 2, 0, 0, 3, 9);
        // An island is no setting out: the second mile since it tired is the one behind the island.
        behind("tired again", x, 3, 0, 0, 2, 9);
        BittenStick calm = flown("aiob", "tb91", "90;90", 7);
        behind("angry", calm, 0, 3, 2, 9, 9);
        behind("calm", calm, 1, 0, 0, 9, 9);
        behind("open", calm, 2, 0, 2, 9, 9);
        behind("sore", calm, 3, 6, 4, 9, 9);
        BittenStick tiresThere = flown("i", "ta11", "31;31", 1);
        behind("tires, then rests", tiresThere, 0, 0, 0, 3, 3);
        ends("not carried on an island", flown("i", "ta19", "51;90", 1), 0, 1, NONE);
    }

    private static void cold() {
        ends("height 5", flown("oooooooooooooooooooooooo", "da11", "90;90", 5), 24, 0, NONE);
        ends("height 6", flown("oooooooooooooooooooooooo", "da11", "90;90", 6), 20, 2, NONE);
        ends("height 6, twenty miles", flown("oooooooooooooooooooo", "da11", "90;90", 6), 20, 0, NONE);
        ends("height 9", flown("oooooooo", "da11", "90;90", 9), 5, 2, NONE);
        BittenStick x = flown("ooooofo", "da11", "90;90", 9);
        ends("frozen over a town", x, 5, 2, 5);
        behind("nearly", x, 4, 0, 20, 9, 9);
        behind("frozen", x, 5, 0, 24, 9, 9);
        behind("fallen", x, 6, NONE, NONE, NONE, NONE);
        // Who falls on an island does not rest there.
        BittenStick y = flown("oooooio", "da11", "92;90", 9);
        ends("frozen on an island", y, 5, 2, NONE);
        behind("frozen on an island", y, 5, 0, 24, 6, 9);
        ends("rested in time", flown("ooooioooo", "da11", "90;90", 9), 9, 0, NONE);
    }

    private static void anger() {
        ends("just borne", flown("b", "ta11", "90;90", 5), 1, 0, NONE);
        BittenStick x = flown("bbo", "ta11", "90;90", 5);
        ends("speaks", x, 1, 3, 1);
        behind("borne", x, 0, 5, 0, 9, 9);
        behind("speaks", x, 1, 10, 0, 9, 9);
        behind("fallen", x, 2, NONE, NONE, NONE, NONE);
        ends("sore", flown("a", "ta11", "90;90", 5), 0, 3, 0);
        ends("sore, high up", flown("a", "ta11", "90;90", 8), 1, 0, NONE);
        ends("proud", flown("b", "pa11", "90;90", 5), 0, 3, 1);
        behind("proud", flown("b", "pa91", "90;90", 5), 0, 6, 0, 9, 9);
        behind("proud and sore", flown("a", "pa91", "90;90", 5), 0, 11, 0, 9, 9);
        behind("deaf", flown("a", "da11", "90;90", 1), 0, 0, 0, 9, 9);
        behind("sleepy, awake", flown("b", "sa91", "90;90", 6), 0, 4, 1, 9, 9);
        behind("sleepy, awake, sore", flown("a", "sa91", "90;90", 6), 0, 8, 1, 9, 9);
        behind("sleepy, asleep", flown("a", "sa91", "90;90", 7), 0, 0, 2, 9, 9);
        behind("no town", flown("o", "pa91", "90;90", 1), 0, 0, 0, 9, 9);
        behind("a wind", flown("w", "pa91", "90;80", 1), 0, 0, 0, 8, 9);
    }

    private static void learned() {
        BittenStick x = flown("abcdef", "pa91", "90;90", 5);
        for (int call = 0; call < 6; call++) {
            x.learn(1 << call);
            int before = call == 0 ? 0 : x.behind(0, call - 1, 0);
            check.due("12 borne " + call, x.behind(0, call, 0) - before, 0);
        }
        x.learn(63);
        check.due("12 all borne", x.behind(0, 5, 0), 0);
        x.learn(62);
        check.due("12 sore alone", x.behind(0, 5, 0), 11);
        BittenStick y = flown("b", "ta19", "40;90", 5);
        y.learn(63);
        check.due("13 falls over what is learned, too", y.comes(0, 2), 1);
    }

    private static void orderOfFalls() {
        // On mile 5 at height 9: cold 24, anger 6 above 5, and a left goose of 4.
        ends("speaks alone", flown("bbbbbb", "ta11", "90;90", 5), 1, 3, 1);
        ends("frozen ahead of speaking", flown("bbbbbb", "ta11", "90;90", 9), 5, 2, 1);
        BittenStick x = flown("bbbbbb", "ta11", "16;90", 9);
        ends("not carried ahead of frozen", x, 5, 1, 1);
        behind("not carried: neither colder nor angrier", x, 5, 5, 20, 0, 9);
        BittenStick y = flown("bbbbbb", "ta11", "90;90", 9);
        behind("frozen: not angrier", y, 5, 5, 24, 9, 9);
    }

    private static void nowhere() {
        int[][] flights = {{1, 0, 1}, {0, 2, 1}, {0, 1, 2}};
        for (int[] f : flights) {
            BittenStick x = Check.stick("oa", "ta11", "90;90");
            x.flight(f[0], f[1], f[2], 5);
            ends("nowhere", x, 0, 1, NONE);
            behind("nowhere", x, 0, NONE, NONE, NONE, NONE);
            BittenStick town = Check.stick("da", "ta11", "90;90");
            town.flight(f[0], f[1], f[2], 5);
            ends("nowhere, over a town", town, 0, 1, 3);
        }
        BittenStick none = flown("", "", "", 5);
        ends("nothing is there", none, 0, 1, NONE);
        ends("no miles", flown("", "ta11", "90;90", 5), 0, 0, NONE);
        BittenStick fault = flown("oo", "ta11", "90;90", 5);
        fault.type(1, ';');
        ends("a fault", fault, 0, 1, NONE);
        fault.undo(1);
        ends("no fault", fault, 2, 0, NONE);
    }

    private static void wrongInputs() {
        BittenStick x = flown("oo", "ta11", "90;90", 5);
        int[] noFlights = {-1, 1, 8};
        for (int f : noFlights) {
            check.due("13 bad", x.comes(f, 0), BAD);
            check.due("14 bad", x.behind(f, 0, 0), BAD);
            check.due("16 bad", x.climb(f, 0), BAD);
            check.due("17 bad", x.practice(f, 0), BAD);
            check.due("18 bad", x.pair(f, 0), BAD);
        }
        check.due("13 bad", x.comes(0, 3), BAD);
        check.due("13 bad", x.comes(0, -1), BAD);
        check.due("14 bad", x.behind(0, 2, 0), BAD);
        check.due("14 bad", x.behind(0, -1, 0), BAD);
        check.due("14 bad", x.behind(0, 0, 4), BAD);
        check.due("14 bad", x.behind(0, 0, -1), BAD);
        check.due("16 bad", x.climb(0, 3), BAD);
        check.due("16 bad", x.climb(0, -2), BAD);
        check.due("17 bad", x.practice(0, 2), BAD);
        check.due("17 bad", x.practice(0, -1), BAD);
        check.due("18 bad", x.pair(0, 2), BAD);
        check.due("18 bad", x.pair(0, -1), BAD);
    }

    private static void farthest() {
        BittenStick x = Check.stick("oooooob", "ta11;ta19", "90;30");
        check.due("15 none", x.farthest(), NONE);
        x.flight(1, 0, 1, 5);
        check.due("15 the only one", x.farthest(), 0);
        x.flight(0, 0, 1, 9);
        x.flight(0, 1, 0, 9);
        check.due("15 the least of like ones", x.farthest(), 1);
        x.flight(0, 0, 1, 5);
        check.due("15 who arrives", x.farthest(), 3);
        BittenStick y = Check.stick("", "ta11", "90;90");
        y.flight(1, 0, 1, 5);
        y.flight(0, 0, 1, 5);
        check.due("15 who arrives where there are no miles", y.farthest(), 1);
    }

    private static void climbs(String what, BittenStick x, int far, int height, int mile, int other) {
        check.due("16 far: " + what, x.climb(0, NONE), far);
        check.due("16 height: " + what, x.climb(0, 0), height);
        check.due("16 mile: " + what, x.climb(0, 1), mile);
        check.due("16 other: " + what, x.climb(0, 2), other);
    }

    private static void climb() {
        climbs("all alike", flown("o", "ta11", "90;90", 9), 1, 1, 1, 1);
        climbs("no miles", flown("", "ta11", "90;90", 9), 0, 1, 1, 1);
        climbs("nowhere", flown("ooo", "ta11", "90", 9), 0, 1, 1, 1);
        climbs("not carried", flown("ooo", "ta19", "90;10", 9), 0, 1, 1, 1);
        climbs("first", flown("ao", "tb11", "90;90", 1), 2, 5, 1, 1);
        climbs("then", flown("oa", "tb11", "90;90", 1), 2, 1, 1, 5);
        climbs("both", flown("aoa", "tb11", "90;90", 1), 3, 6, 1, 9);
        climbs("the last mile", flown("oooooooooooooooooooooooa", "ta11", "90;90", 1), 24, 1, 18, 8);
        climbs("speaks whatever he does", flown("aaaaaao", "pa11", "90;90", 1), 1, 8, 1, 1);
        climbs("the highest alone", flown("aa", "ta11", "90;90", 1), 2, 9, 1, 9);
        BittenStick x = flown("oa", "tb11", "90;90", 1);
        x.learn(1);
        climbs("learned", x, 2, 1, 1, 1);
        check.due("16 changes nothing", x.comes(0, 0), 2);
    }

    private static void practices(String what, BittenStick x, int number, int bits) {
        check.due("17 number: " + what, x.practice(0, 0), number);
        check.due("17 bits: " + what, x.practice(0, 1), bits);
    }

    private static void practice() {
        practices("none", flown("b", "ta11", "90;90", 5), 0, 0);
        practices("the sore", flown("ab", "ta11", "90;90", 5), 1, 1);
        practices("the least of like ones", flown("bc", "ta11", "90;90", 5), 1, 2);
        practices("fewest, not least", flown("bcaa", "tf31", "90;90", 5), 1, 1);
        practices("one rather than three", flown("abcddd", "te31", "90;90", 5), 1, 8);
        practices("all", flown("abcdef", "pa11", "90;90", 1), 6, 63);
        practices("frozen", flown("oooooo", "ta11", "90;90", 9), NONE, NONE);
        practices("nowhere", flown("o", "ta11", "90", 9), NONE, NONE);
        practices("no miles", flown("", "ta11", "90;90", 9), 0, 0);
        BittenStick x = flown("bc", "ta11", "90;90", 5);
        x.learn(60);
        practices("in place of those that are", x, 1, 2);
        check.due("17 changes nothing", x.learn(0), 60);
    }

    private static void pairs(String what, BittenStick x, int which, int far) {
        check.due("18 which: " + what, x.pair(0, 0), which);
        check.due("18 far: " + what, x.pair(0, 1), far);
    }

    private static void pair() {
        pairs("all alike", flown("oo", "ta11", "90;90;90", 5), 1, 2);
        pairs("the left one first", flown("oo", "ta19", "40;50;30", 5), 8, 2);
        pairs("the last ones", flown("ooo", "ta19", "10;10;10;10;10;10;40;50", 5), 8 * 7 + 6, 3);
        pairs("farther", flown("ooo", "ta19", "52;53;40", 5), 8, 2);
        pairs("none", flown("ooo", "ta19", "90", 5), NONE, NONE);
        pairs("no geese", flown("ooo", "ta19", "", 5), NONE, NONE);
        pairs("no passenger", flown("ooo", "", "90;90", 5), 1, 0);
        pairs("no miles", flown("", "ta11", "90;90", 5), 1, 0);
        BittenStick x = Check.stick("oo", "ta11", "90;90");
        x.flight(0, 5, 6, 5);
        pairs("in place of geese that are not there", x, 1, 2);
        pairs("he speaks", flown("oba", "ta11", "90;90", 5), 1, 2);
    }
}
