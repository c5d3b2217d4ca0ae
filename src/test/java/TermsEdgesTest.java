import java.util.Arrays;

/** The edges that 'What it is' and 'Terms' name: texts, faults, and the steps of each mile up to how he falls. */
public final class TermsEdgesTest {
    private static final int NONE = -1, BAD = -2, NOT = -3, FULL = -4;
    private static final int[] LIMITS = {24, 39, 23};
    private static final String[] FULL_TEXTS = {"abcdefoiwabcdefoiwabcdef",
        "ta11;db22;pc33;sd44;te55;df66;pa77;sb99", "10;21;32;43;54;65;76;99"};
    private static final Check check = new Check("TermsEdgesTest");

    public static void main(String[] args) {
        textsThatAreFull();
        emptyIsWell();
        lastByteOfLand();
        firstFault();
        notEnded();
        aNinth();
        landWithFault();
        passengersWithFault();
        geeseWithFault();
        numbersOfFlights();
        flownAgain();
        windOnEachMile();
        tiredByEachNumber();
        halfOfEachWeight();
        coldOfEachHeight();
        angerOfEachKind();
        temperJustEnough();
        restOnIslands();
        lastMile();
        manyCalls();
        check.end();
    }

    private static BittenStick flown(String land, String passenger, String geese, int height) {
        BittenStick x = Check.stick(land, passenger, geese);
        x.flight(0, 0, 1, height);
        return x;
    }

    private static void ends(String what, BittenStick x, int mile, int how, int call) {
        check.due("mile: " + what, x.comes(0, 0), mile);
        check.due("how: " + what, x.comes(0, 1), how);
        check.due("call: " + what, x.comes(0, 2), call);
    }

    private static void textsThatAreFull() {
        BittenStick x = Check.stick(FULL_TEXTS[0], FULL_TEXTS[1], FULL_TEXTS[2]);
        int[] things = {24, 8, 8};
        for (int text = 0; text < 3; text++) {
            check.due("2 full", x.type(text, ';'), FULL);
            check.due("2 full, a letter that would fit", x.type(text, "at1".charAt(text)), FULL);
            check.due("5 a full text is well", x.fault(text), NONE);
            check.due("32 things of a full text", x.count(text), things[text]);
            check.due("32 bytes of a full text", x.count(3 + text), LIMITS[text]);
        }
        check.due("6 the last mile", x.mile(23), 5);
        check.due("7 the last passenger's kind", x.passenger(7, 0), 3);
        check.due("7 the last passenger's sore", x.passenger(7, 1), 1);
        check.due("7 the last passenger's temper", x.passenger(7, 2), 9);
        check.due("7 the last passenger's weight", x.passenger(7, 3), 9);
        check.due("7 no ninth", x.passenger(8, 0), BAD);
        check.due("8 the last goose, strong", x.goose(7, 0), 9);
        check.due("8 the last goose tires", x.goose(7, 1), 9);
        check.due("8 no ninth", x.goose(8, 0), BAD);
        for (int text = 0; text < 3; text++) {
            check.due("4 room for one", x.undo(text), LIMITS[text] - 1);
            check.due("2 the last byte again", x.type(text, FULL_TEXTS[text].charAt(LIMITS[text] - 1)), LIMITS[text]);
            check.due("5 well again", x.fault(text), NONE);
            check.due("3 wiped", x.wipe(text), LIMITS[text]);
            check.due("2 from the first byte on", x.type(text, FULL_TEXTS[text].charAt(0)), 1);
        }
    }

    private static void emptyIsWell() {
        for (int text = 0; text < 3; text++) {
            BittenStick x = new BittenStick();
            check.due("5 empty at first", x.fault(text), NONE);
            check.due("3 wiped though empty", x.wipe(text), 0);
            check.due("5 empty, wiped", x.fault(text), NONE);
            x.type(text, 'x');
            check.due("5 not well", x.fault(text), 0);
            check.due("4 undone to empty", x.undo(text), 0);
            check.due("5 empty, undone", x.fault(text), NONE);
            check.due("32 nothing is told", x.count(text), 0);
            check.due("4 nothing to undo", x.undo(text), NOT);
            check.due("5 still empty", x.fault(text), NONE);
            Check.typeAll(x, text, FULL_TEXTS[text]);
            x.wipe(text);
            check.due("5 wiped when full", x.fault(text), NONE);
            check.due("32 nothing is told", x.count(text), 0);
            check.due("32 no bytes", x.count(3 + text), 0);
            check.due("6 no mile", x.mile(0), NONE);
            check.due("7 no passenger", x.passenger(0, 0), BAD);
            check.due("8 no goose", x.goose(0, 0), BAD);
        }
    }

    private static void lastByteOfLand() {
        String letters = "abcdefoiw";
        for (int b = 0; b < 256; b++) {
            BittenStick x = Check.stick(FULL_TEXTS[0].substring(0, 23), "", "");
            check.due("2 the last byte", x.type(0, b), 24);
            int due = letters.indexOf(b);
            check.due("5 the last byte " + b, x.fault(0), due >= 0 ? NONE : 23);
            check.due("6 the last mile " + b, x.mile(23), due);
            check.due("32 miles " + b, x.count(0), due >= 0 ? 24 : 0);
        }
    }

    private static void firstFault() {
        String[][] rows = {
            {"0", ";", "0"}, {"0", "A", "0"}, {"0", "ab;cd", "2"}, {"0", "ooxoxo", "2"},
            {"1", ";", "0"}, {"1", ";ta11", "0"}, {"1", "a", "0"}, {"1", "tt", "1"}, {"1", "tA11", "1"},
            {"1", "ta0", "2"}, {"1", "ta10", "3"}, {"1", "ta11,ta11", "4"}, {"1", "ta111", "4"},
            {"1", "ta11;;", "5"}, {"1", "ta11;tg11;tx", "6"}, {"1", "ta11;ta01", "7"}, {"1", "ta11;ta1;", "8"},
            {"1", "ta11 ;", "4"},
            {"2", ";", "0"}, {"2", "0", "0"}, {"2", "00", "0"}, {"2", "1;", "1"}, {"2", "1a", "1"}, {"2", "100", "2"},
            {"2", "10;;", "3"}, {"2", "10;00;00", "3"}, {"2", "10;1;", "4"}, {"2", "10,10", "2"},
        };
        for (String[] row : rows) {
            int text = row[0].charAt(0) - '0';
            BittenStick x = new BittenStick();
            Check.typeAll(x, text, row[1]);
            check.due("5 the first fault of " + row[1], x.fault(text), Integer.parseInt(row[2]));
            check.due("32 as if empty: " + row[1], x.count(text), 0);
            check.due("32 its bytes: " + row[1], x.count(3 + text), row[1].length());
        }
    }

    private static void notEnded() {
        int[] whole = {0, 5, 3};
        for (int text = 1; text < 3; text++) {
            for (int length = 1; length <= LIMITS[text]; length++) {
                BittenStick x = new BittenStick();
                Check.typeAll(x, text, FULL_TEXTS[text].substring(0, length));
                boolean ended = length % whole[text] == whole[text] - 1;
                check.due("5 at its end, " + length, x.fault(text), ended ? NONE : length);
                check.due("32 things, " + length, x.count(text), ended ? (length + 1) / whole[text] : 0);
            }
        }
        for (int length = 0; length <= 24; length++) {
            BittenStick x = Check.stick(FULL_TEXTS[0].substring(0, length), "", "");
            check.due("5 a land is always ended", x.fault(0), NONE);
            check.due("32 miles", x.count(0), length);
            check.due("6 behind the last", x.mile(length), length == 24 ? BAD : NONE);
        }
    }

    /** Eight fill their text, so the first byte of a ninth finds no room, and the eight stand. */
    private static void aNinth() {
        for (int text = 1; text < 3; text++) {
            BittenStick x = new BittenStick();
            Check.typeAll(x, text, FULL_TEXTS[text]);
            for (int b = 0; b < 256; b++) {
                check.due("2 a ninth", x.type(text, b), FULL);
            }
            check.due("5 no ninth", x.fault(text), NONE);
            check.due("32 eight", x.count(text), 8);
        }
    }

    private static BittenStick inFlight() {
        BittenStick x = Check.stick("bbo", "ta91;tb91", "90;90");
        x.flight(0, 0, 1, 5);
        x.seen(0, 3);
        x.sheet(0, 2, 5);
        return x;
    }

    private static void landWithFault() {
        BittenStick x = inFlight();
        x.type(0, 'x');
        check.due("6 no mile", x.mile(0), NONE);
        check.due("32 no miles", x.count(0), 0);
        check.due("32 four bytes", x.count(3), 4);
        ends("a land with a fault: he arrives where he is", x, 0, 0, NONE);
        check.due("14 no such mile", x.behind(0, 0, 0), BAD);
        check.due("16 nowhere to come", x.climb(0, NONE), 0);
        check.due("17 nothing to learn", x.practice(0, 0), 0);
        check.due("18 alike", x.pair(0, 1), 0);
        check.due("21 not so far", x.sores(0), 0);
        check.due("22 not so far", x.high(0), 0);
        check.due("24 sure", x.laugh(16, 0, 0), 1);
        check.due("25 all arrive", x.lakes(3, 20, 0), 20);
        check.due("31 nothing to write", x.write(0, 0, 0), 0);
        x.undo(0);
        ends("without it", x, 3, 0, NONE);
        check.due("21 so far", x.sores(0), 63);
    }

    private static void passengersWithFault() {
        BittenStick x = inFlight();
        x.type(1, ';');
        check.due("7 none", x.passenger(1, 0), BAD);
        check.due("32 none", x.count(1), 0);
        check.due("32 ten bytes", x.count(4), 10);
        ends("no passengers", x, 0, 1, 1);
        check.due("14 goes nowhere", x.behind(0, 0, 2), NONE);
        check.due("17 never", x.practice(0, 0), NONE);
        check.due("18 the first two", x.pair(0, 0), 1);
        check.due("21 no such passenger", x.sores(0), BAD);
        check.due("22 never", x.high(0), 0);
        check.due("23 no such passenger", x.ask(0), BAD);
        check.due("24 never", x.laugh(0, 0, 0), 0);
        check.due("25 no lots", x.lakes(3, 20, 0), 0);
        check.due("31 as many as miles", x.write(0, 0, 0), 3);
        check.due("31 nothing behind them", x.get(0, 2, 2), NONE);
        x.undo(1);
        ends("two passengers", x, 3, 0, NONE);
        check.due("23 one to ask", x.ask(1), 0);
    }

    private static void geeseWithFault() {
        BittenStick x = inFlight();
        x.undo(2);
        check.due("5 not ended", x.fault(2), 4);
        check.due("8 none", x.goose(0, 0), BAD);
        check.due("32 none", x.count(2), 0);
        ends("no geese", x, 0, 1, 1);
        check.due("14 goes nowhere", x.behind(0, 2, 3), NONE);
        check.due("18 there are no two", x.pair(0, 0), NONE);
        check.due("18 there are no two", x.pair(0, 1), NONE);
        check.due("21 never", x.sores(1), 0);
        check.due("25 no lots", x.lakes(3, 20, 1), 0);
        x.undo(2);
        x.undo(2);
        check.due("8 one is whole", x.goose(0, 0), 9);
        check.due("18 one alone", x.pair(0, 0), NONE);
        check.due("25 one alone", x.lakes(3, 20, 0), 0);
        ends("one alone", x, 0, 1, 1);
    }

    private static void numbersOfFlights() {
        BittenStick x = new BittenStick();
        check.due("9 the least", x.flight(0, 0, 1, 1), 1);
        check.due("9 the least on the right", x.flight(0, 1, 0, 1), 2);
        check.due("9 the greatest", x.flight(7, 7, 6, 9), 3);
        check.due("9 the greatest on the right", x.flight(7, 6, 7, 9), 4);
        check.due("9 like ones", x.flight(7, 7, 7, 9), BAD);
        check.due("9 like ones", x.flight(0, 0, 0, 1), BAD);
        int[] far = {-1, 8, Integer.MIN_VALUE, Integer.MAX_VALUE};
        for (int n : far) {
            check.due("9 passenger " + n, x.flight(n, 0, 1, 1), BAD);
            check.due("9 left " + n, x.flight(0, n, 1, 1), BAD);
            check.due("9 right " + n, x.flight(0, 1, n, 1), BAD);
            check.due("9 both " + n, x.flight(0, n, n, 1), BAD);
        }
        int[] heights = {0, -1, 10, Integer.MIN_VALUE, Integer.MAX_VALUE};
        for (int height : heights) {
            check.due("9 height " + height, x.flight(0, 0, 1, height), BAD);
        }
        check.due("32 four", x.count(6), 4);
        check.due("9 the fifth of the same", x.flight(0, 0, 1, 1), 5);
    }

    /** A flight of what is not there goes nowhere, whatever was flown just ahead of it. */
    private static void flownAgain() {
        BittenStick x = Check.stick("oao", "ta91", "90;90");
        x.flight(0, 0, 1, 5);
        x.flight(1, 0, 1, 5);
        x.flight(0, 2, 1, 5);
        x.flight(0, 1, 7, 5);
        for (int nowhere = 1; nowhere <= 3; nowhere++) {
            for (int what = 0; what < 4; what++) {
                check.due("14 one that goes", x.behind(0, 2, what), what == 0 ? 10 : what == 1 ? 0 : 9);
                check.due("14 goes nowhere", x.behind(nowhere, 0, what), NONE);
            }
            check.due("13 one that goes", x.comes(0, 0), 3);
            check.due("13 to mile 0", x.comes(nowhere, 0), 0);
            check.due("13 one that goes", x.comes(0, 1), 0);
            check.due("13 not carried", x.comes(nowhere, 1), 1);
            check.due("13 over no town", x.comes(nowhere, 2), NONE);
            check.due("16 one that goes", x.climb(0, NONE), 3);
            check.due("16 goes nowhere", x.climb(nowhere, NONE), 0);
            check.due("17 one that goes", x.practice(0, 0), 0);
            check.due("17 goes nowhere", x.practice(nowhere, 0), NONE);
            check.due("24 one that goes", x.laugh(16, 0, 0), 1);
            check.due("24 goes nowhere", x.laugh(0, nowhere, 0), 0);
            check.due("24 goes nowhere", x.laugh(0, nowhere, 1), 1);
            check.due("22 one that goes", x.high(0), 1022);
        }
        x.seen(0, 3);
        x.seen(1, 0);
        x.seen(2, 0);
        x.seen(3, 0);
        check.due("21 each came so", x.sores(0), 63);
        check.due("18 whoever its geese were", x.pair(2, 1), 3);
        check.due("18 no passenger", x.pair(1, 1), 0);
    }

    private static void windOnEachMile() {
        BittenStick x = flown("wwwww", "ta12", "90;80", 5);
        for (int mile = 0; mile < 5; mile++) {
            check.due("14 on the left behind wind " + mile, x.behind(0, mile, 2), mile % 2 == 0 ? 8 : 9);
            check.due("14 on the right behind wind " + mile, x.behind(0, mile, 3), mile % 2 == 0 ? 9 : 8);
        }
        ends("the wind turns ahead of carrying", flown("w", "ta19", "40;50", 5), 1, 0, NONE);
        ends("the wind turns ahead of carrying", flown("w", "ta19", "50;40", 5), 0, 1, NONE);
        // On the mile of the wind the one that comes to the left is tired there, not the one that leaves it.
        ends("turned, then tired", flown("ow", "ta19", "60;52", 5), 1, 1, NONE);
        ends("turned, then tired", flown("ow", "ta19", "52;50", 5), 2, 0, NONE);
        ends("no wind in a town", flown("aooo", "ta99", "50;40", 5), 4, 0, NONE);
    }

    private static void tiredByEachNumber() {
        String open = "oooooooooooooooooooooooo";
        for (int tires = 0; tires <= 9; tires++) {
            BittenStick left = flown(open, "ta11", "9" + tires + ";90", 5);
            BittenStick right = flown(open, "ta11", "90;9" + tires, 5);
            int leftFalls = tires == 1 ? 8 : tires == 2 ? 17 : 24;
            int rightFalls = tires == 1 ? 9 : tires == 2 ? 19 : 24;
            ends("on the left, by " + tires, left, leftFalls, leftFalls < 24 ? 1 : 0, NONE);
            ends("on the right, by " + tires, right, rightFalls, rightFalls < 24 ? 1 : 0, NONE);
            for (int mile = 0; mile < 24; mile++) {
                int strong = tires == 0 ? 9 : 9 - (mile + 1) / tires;
                String when = " behind " + mile + ", by " + tires;
                check.due("14 left" + when, left.behind(0, mile, 2), mile > leftFalls ? NONE : strong);
                check.due("14 right" + when, right.behind(0, mile, 3), mile > rightFalls ? NONE : strong);
            }
        }
    }

    private static void halfOfEachWeight() {
        for (int weight = 1; weight <= 9; weight++) {
            int left = (weight + 1) / 2;
            int right = weight / 2;
            String passenger = "ta1" + weight;
            String enough = left + "0;" + Math.max(1, right) + "0";
            ends("just enough for " + weight, flown("o", passenger, enough, 5), 1, 0, NONE);
            // One that tires by 1 is one less on the very first mile.
            ends("left one short of " + weight, flown("o", passenger, left + "1;90", 5), 0, 1, NONE);
            ends("left one more than " + weight, flown("o", passenger, left + 1 + "1;90", 5), 1, 0, NONE);
            boolean carried = right == 0;
            ends("right one short of " + weight, flown("o", passenger, "90;" + Math.max(1, right) + "1", 5),
                    carried ? 1 : 0, carried ? 0 : 1, NONE);
        }
    }

    private static void coldOfEachHeight() {
        int[] falls = {24, 24, 24, 24, 24, 20, 10, 6, 5};
        for (int height = 1; height <= 9; height++) {
            BittenStick x = flown("oooooooooooooooooooooooo", "ta11", "90;90", height);
            int to = falls[height - 1];
            ends("at height " + height, x, to, to < 24 ? 2 : 0, NONE);
            for (int mile = 0; mile < 24; mile++) {
                int cold = mile > to ? NONE : Math.max(0, height - 5) * (mile + 1);
                check.due("14 cold at " + height + " behind " + mile, x.behind(0, mile, 1), cold);
            }
        }
    }

    private static void angerOfEachKind() {
        String kinds = "tdps";
        for (int kind = 0; kind < 4; kind++) {
            for (int height = 1; height <= 9; height++) {
                BittenStick x = flown("aiboiwf", kinds.charAt(kind) + "a91", "90;90", height);
                boolean hears = kind != 1 && !(kind == 3 && height >= 7);
                int call = !hears ? 0 : 10 - height + (kind == 2 ? 1 : 0);
                int sore = !hears ? 0 : 20 - 2 * height + (kind == 2 ? 1 : 0);
                int[] due = {sore, 0, call, call, 0, 0, call};
                for (int mile = 0; mile < due.length; mile++) {
                    String what = kinds.charAt(kind) + " at " + height + " behind " + mile;
                    check.due("14 anger of " + what, x.behind(0, mile, 0), due[mile]);
                }
                x.learn(1);
                check.due("12 the sore is learned", x.behind(0, 0, 0), 0);
                check.due("12 another is not", x.behind(0, 2, 0), call);
            }
        }
    }

    private static void temperJustEnough() {
        char[] towns = new char[24];
        Arrays.fill(towns, 'b');
        String land = new String(towns);
        for (int temper = 1; temper <= 9; temper++) {
            BittenStick x = flown(land, "ta" + temper + "1", "90;90", 5);
            ends("speaks above 5 times " + temper, x, temper, 3, 1);
            check.due("14 just borne", x.behind(0, temper - 1, 0), 5 * temper);
            check.due("14 spoken", x.behind(0, temper, 0), 5 * temper + 5);
        }
        ends("one above, a proud one at 5", flown("b", "pa11", "90;90", 5), 0, 3, 1);
        ends("just borne, a proud one at 6", flown("b", "pa11", "90;90", 6), 1, 0, NONE);
        ends("just borne, at 7 five times", flown("bbbbb", "ta31", "90;90", 7), 5, 0, NONE);
        ends("one above, at 7 seven times", flown("bbbbbbb", "ta41", "90;90", 7), 6, 3, 1);
        ends("one above, at 4 once", flown("b", "ta11", "90;90", 4), 0, 3, 1);
        ends("one above, proud, at 5 six times", flown("bbbbbb", "pa71", "90;90", 5), 5, 3, 1);
    }

    private static void restOnIslands() {
        BittenStick x = flown("ooiiio", "ta11", "91;71", 5);
        int[] left = {8, 7, 7, 7, 7, 6};
        int[] right = {6, 5, 5, 5, 5, 4};
        for (int mile = 0; mile < 6; mile++) {
            check.due("14 left, tires and rests, " + mile, x.behind(0, mile, 2), left[mile]);
            check.due("14 right, tires and rests, " + mile, x.behind(0, mile, 3), right[mile]);
        }
        BittenStick once = flown("oooooiii", "ta11", "93;92", 5);
        int[] byThree = {9, 9, 8, 8, 8, 8, 9, 9};
        int[] byTwo = {9, 8, 8, 7, 7, 7, 8, 8};
        for (int mile = 0; mile < 8; mile++) {
            check.due("14 by 3 and rests, " + mile, once.behind(0, mile, 2), byThree[mile]);
            check.due("14 by 2 and rests, " + mile, once.behind(0, mile, 3), byTwo[mile]);
        }
        ends("an island at cold 20 warms", flown("ooooioooo", "ta11", "90;90", 9), 9, 0, NONE);
        ends("an island one mile late", flown("oooooioooo", "ta11", "90;90", 9), 5, 2, NONE);
        BittenStick calm = flown("bibibibibibib", "ta11", "90;90", 5);
        ends("calm again and again", calm, 13, 0, NONE);
        ends("the island comes too late", flown("bbibo", "ta11", "90;90", 5), 1, 3, 1);
        ends("a rest too late for carrying", flown("ioi", "ta19", "61;90", 5), 2, 1, NONE);
    }

    private static void lastMile() {
        ends("speaks over the last", flown("oobb", "ta11", "90;90", 5), 3, 3, 1);
        ends("frozen over the last", flown("ooooob", "ta11", "90;90", 9), 5, 2, 1);
        ends("not carried over the last", flown("oob", "ta19", "53;90", 5), 2, 1, 1);
        ends("arrives over a town", flown("oob", "ta91", "90;90", 5), 3, 0, NONE);
        BittenStick far = flown("ooooooooooooooooooooooob", "ta11", "90;90", 4);
        ends("speaks over mile 23", far, 23, 3, 1);
        check.due("14 behind mile 23", far.behind(0, 23, 0), 6);
        check.due("14 no mile 24", far.behind(0, 24, 0), BAD);
        far.learn(2);
        ends("arrives behind mile 23", far, 24, 0, NONE);
        check.due("14 behind mile 23", far.behind(0, 23, 0), 0);
    }

    /** An object is good for 512 calls, and so is what it answers at the last of them. */
    private static void manyCalls() {
        BittenStick x = new BittenStick();
        for (int call = 0; call < 511; call += 7) {
            check.due("2 type", x.type(0, 'o'), 1);
            check.due("9 flight", x.flight(0, 0, 1, 9), 1);
            check.due("19 seen", x.seen(7, 24), 1);
            check.due("26 sheet", x.sheet(3, 2, 60), 60);
            check.due("4 undo", x.undo(0), 0);
            check.due("10 back", x.back(), 0);
            check.due("20 forget", x.forget(), 1);
        }
        check.due("27 the 512th", x.lose(3), 60);
    }
}
