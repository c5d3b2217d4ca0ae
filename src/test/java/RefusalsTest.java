import java.util.function.ToLongFunction;

/**
 * Each refusal of each promise: its answer, that the first that fits is told, and that nothing is changed by it (by a
 * finding: count() 8 alone). What is asked changes nothing either. Two objects are made alike; one is called, and then
 * both must answer alike.
 */
public final class RefusalsTest {
    private static final int NONE = -1, BAD = -2, NOT = -3, FULL = -4;
    private static final int NULL = -11, INDEX = -12, CAST = -13, STORE = -14, SIZE = -15;
    private static final int LEAST = Integer.MIN_VALUE, MOST = Integer.MAX_VALUE;
    private static final long LONG_BAD = Long.MIN_VALUE + 2;
    private static final Check check = new Check("RefusalsTest");

    /** How two like objects come to be what they are ahead of the call. */
    private enum State { NEW, ORDINARY, BRIMFUL }

    public static void main(String[] args) {
        texts();
        things();
        flights();
        plans();
        seenLaughterLakes();
        sheetsBad();
        sheetsFound();
        copies();
        questions();
        check.end();
    }

    private static BittenStick make(State state) {
        BittenStick x = new BittenStick();
        if (state == State.ORDINARY) {
            fillOrdinary(x);
        } else if (state == State.BRIMFUL) {
            fillBrimful(x);
        }
        return x;
    }

    /** Sheets 0 to 2 of forms 0 to 2 stand, with 4, 5 and 6 items; sheet 3 is lost; the latest finding is CAST. */
    private static void fillOrdinary(BittenStick x) {
        Check.typeAll(x, 0, "obiwacf");
        Check.typeAll(x, 1, "ta37;pb24;sc92");
        Check.typeAll(x, 2, "93;64;50;82");
        x.flight(0, 0, 1, 5);
        x.flight(1, 2, 3, 7);
        x.flight(3, 0, 1, 2);
        x.learn(4);
        x.seen(0, x.comes(0, 0));
        for (int form = 0; form < 3; form++) {
            x.sheet(form, form, 4 + form);
            for (int i = 0; i < 4 + form; i++) {
                x.lay(form, form, i, 10 * form + i + 1);
            }
        }
        x.get(0, 2, 0);
    }

    private static void fillBrimful(BittenStick x) {
        Check.typeAll(x, 0, "aoboiowocodoeofoaobowoio");
        Check.typeAll(x, 1, "ta11;db22;pc33;sd44;te55;df66;pa77;sb99");
        Check.typeAll(x, 2, "90;81;72;63;54;65;76;99");
        for (int i = 0; i < 8; i++) {
            x.flight(i, i, 7 - i, i + 1);
            x.seen(i, 3 * i);
        }
        for (int s = 0; s < 4; s++) {
            x.sheet(s, s % 3, 60);
            for (int i = 0; i < 60; i++) {
                x.lay(s, s % 3, i, i % 4 == 0 ? 0 : i % 4 == 1 ? 2 : 1);
            }
        }
        x.learn(63);
    }

    private static void alike(String what, BittenStick x, BittenStick twin) {
        check.due(what + ": digest", x.digest(), twin.digest());
        for (int count = 0; count <= 7; count++) {
            check.due(what + ": count " + count, x.count(count), twin.count(count));
        }
        // Both are brought to the same latest finding, which then tells what each look at an item finds.
        check.due(what + ": size", x.sheet(0, 0, -1), twin.sheet(0, 0, -1));
        int learned = twin.learn(0);
        check.due(what + ": learned", x.learn(0), learned);
        x.learn(learned);
        twin.learn(learned);
        for (int s = 0; s < 4; s++) {
            for (int form = 0; form < 3; form++) {
                for (int i = 0; i <= 60; i++) {
                    check.due(what + ": item " + i + " of " + s, x.get(s, form, i), twin.get(s, form, i));
                    check.due(what + ": finding at " + i + " of " + s, x.count(8), twin.count(8));
                }
            }
        }
    }

    private static void changesNothing(String what, State state, ToLongFunction<BittenStick> call, long due) {
        BittenStick x = make(state);
        BittenStick twin = make(state);
        int finding = twin.count(8);
        check.due(what, call.applyAsLong(x), due);
        check.due(what + ": no finding", x.count(8), finding);
        alike(what, x, twin);
    }

    private static void bad(String what, ToLongFunction<BittenStick> call) {
        for (State state : State.values()) {
            changesNothing(what + " in a stick that is " + state, state, call, BAD);
        }
    }

    private static void found(String what, ToLongFunction<BittenStick> call, int due) {
        found(what, call, due, -10 - due);
    }

    private static void found(String what, ToLongFunction<BittenStick> call, int due, int number) {
        BittenStick x = make(State.ORDINARY);
        check.due(what, call.applyAsLong(x), due);
        check.due(what + ": its number", x.count(8), number);
        alike(what, x, make(State.ORDINARY));
    }

    private static void texts() {
        int[] none = {-1, 3, LEAST, MOST};
        for (int text : none) {
            bad("2 text " + text, x -> x.type(text, 'a'));
            bad("3 text " + text, x -> x.wipe(text));
            bad("4 text " + text, x -> x.undo(text));
            bad("5 text " + text, x -> x.fault(text));
        }
        int[] noBytes = {-1, 256, 256 + 'a', LEAST, MOST};
        for (int text = 0; text < 3; text++) {
            int told = text;
            for (int b : noBytes) {
                bad("2 byte " + b, x -> x.type(told, b));
            }
            changesNothing("2 full, byte 0", State.BRIMFUL, x -> x.type(told, 0), FULL);
            changesNothing("2 full, byte 255", State.BRIMFUL, x -> x.type(told, 255), FULL);
            changesNothing("4 empty", State.NEW, x -> x.undo(told), NOT);
        }
    }

    private static void things() {
        int[] noMiles = {-1, 24, LEAST, MOST};
        for (int mile : noMiles) {
            bad("6 mile " + mile, x -> x.mile(mile));
        }
        changesNothing("6 behind the last", State.ORDINARY, x -> x.mile(7), NONE);
        changesNothing("6 the last that may be", State.ORDINARY, x -> x.mile(23), NONE);
        int[] none = {-1, 8, LEAST, MOST};
        for (int thing : none) {
            bad("7 passenger " + thing, x -> x.passenger(thing, 0));
            bad("8 goose " + thing, x -> x.goose(thing, 0));
            bad("21 passenger " + thing, x -> x.sores(thing));
            bad("23 passenger " + thing, x -> x.ask(thing));
        }
        changesNothing("7 one behind the last", State.ORDINARY, x -> x.passenger(3, 0), BAD);
        changesNothing("8 one behind the last", State.ORDINARY, x -> x.goose(4, 0), BAD);
        changesNothing("21 one behind the last", State.ORDINARY, x -> x.sores(3), BAD);
        changesNothing("23 one behind the last", State.ORDINARY, x -> x.ask(3), BAD);
        int[] noWhats = {-1, 4, LEAST, MOST};
        for (int what : noWhats) {
            bad("7 what " + what, x -> x.passenger(0, what));
            bad("8 what " + what, x -> x.goose(0, what));
        }
        bad("8 what 2", x -> x.goose(0, 2));
    }

    private static void flights() {
        int[] none = {-1, 8, LEAST, MOST};
        for (int n : none) {
            bad("9 passenger " + n, x -> x.flight(n, 0, 1, 1));
            bad("9 left " + n, x -> x.flight(0, n, 1, 1));
            bad("9 right " + n, x -> x.flight(0, 1, n, 1));
        }
        int[] noHeights = {0, 10, -1, LEAST, MOST};
        for (int height : noHeights) {
            bad("9 height " + height, x -> x.flight(0, 0, 1, height));
        }
        bad("9 like geese", x -> x.flight(0, 3, 3, 1));
        changesNothing("9 full", State.BRIMFUL, x -> x.flight(0, 0, 1, 1), FULL);
        changesNothing("10 none", State.NEW, BittenStick::back, NOT);
        changesNothing("11 full", State.BRIMFUL, x -> x.read(0), 0);
        changesNothing("11 one that may not be", State.ORDINARY, x -> x.read(1), 0);
        int[] noCalls = {-1, 64, LEAST, MOST};
        for (int calls : noCalls) {
            bad("12 calls " + calls, x -> x.learn(calls));
        }
    }

    private static void plans() {
        int[] none = {-1, 8, LEAST, MOST};
        for (int flight : none) {
            bad("13 flight " + flight, x -> x.comes(flight, 0));
            bad("14 flight " + flight, x -> x.behind(flight, 0, 0));
            bad("16 flight " + flight, x -> x.climb(flight, 0));
            bad("17 flight " + flight, x -> x.practice(flight, 0));
            bad("18 flight " + flight, x -> x.pair(flight, 0));
            bad("22 flight " + flight, x -> x.high(flight));
            bad("31 flight " + flight, x -> x.write(flight, 0, 0));
        }
        changesNothing("13 one behind the last", State.ORDINARY, x -> x.comes(3, 0), BAD);
        changesNothing("14 one behind the last", State.ORDINARY, x -> x.behind(3, 0, 0), BAD);
        changesNothing("16 one behind the last", State.ORDINARY, x -> x.climb(3, NONE), BAD);
        changesNothing("17 one behind the last", State.ORDINARY, x -> x.practice(3, 0), BAD);
        changesNothing("18 one behind the last", State.ORDINARY, x -> x.pair(3, 0), BAD);
        changesNothing("22 one behind the last", State.ORDINARY, x -> x.high(3), BAD);
        changesNothing("31 one behind the last", State.ORDINARY, x -> x.write(3, 0, 0), BAD);
        int[] noMiles = {-1, 24, LEAST, MOST};
        for (int mile : noMiles) {
            bad("14 mile " + mile, x -> x.behind(0, mile, 0));
        }
        changesNothing("14 one behind the last mile", State.ORDINARY, x -> x.behind(0, 7, 0), BAD);
        bad("13 what 3", x -> x.comes(0, 3));
        bad("14 what 4", x -> x.behind(0, 0, 4));
        bad("16 i 3", x -> x.climb(0, 3));
        bad("16 i -2", x -> x.climb(0, -2));
        bad("17 what 2", x -> x.practice(0, 2));
        bad("18 what 2", x -> x.pair(0, 2));
        int[] noWhats = {LEAST, MOST};
        for (int what : noWhats) {
            bad("13 what " + what, x -> x.comes(0, what));
            bad("14 what " + what, x -> x.behind(0, 0, what));
            bad("16 i " + what, x -> x.climb(0, what));
            bad("17 what " + what, x -> x.practice(0, what));
            bad("18 what " + what, x -> x.pair(0, what));
        }
        bad("13 what -1", x -> x.comes(0, -1));
        bad("14 what -1", x -> x.behind(0, 0, -1));
        bad("17 what -1", x -> x.practice(0, -1));
        bad("18 what -1", x -> x.pair(0, -1));
    }

    private static void seenLaughterLakes() {
        int[] none = {-1, 8, LEAST, MOST};
        for (int flight : none) {
            bad("19 flight " + flight, x -> x.seen(flight, 0));
            changesNothing("24 flight " + flight, State.ORDINARY, x -> x.laugh(8, flight, 0), LONG_BAD);
        }
        int[] noMiles = {-1, 25, LEAST, MOST};
        for (int mile : noMiles) {
            bad("19 mile " + mile, x -> x.seen(0, mile));
        }
        changesNothing("19 full", State.BRIMFUL, x -> x.seen(0, 0), FULL);
        changesNothing("20 none", State.NEW, BittenStick::forget, 0);
        int[] noChances = {-1, 17, LEAST, MOST};
        for (int c : noChances) {
            changesNothing("24 chance " + c, State.ORDINARY, x -> x.laugh(c, 0, 0), LONG_BAD);
        }
        int[] noWhats = {-1, 2, LEAST, MOST};
        for (int what : noWhats) {
            changesNothing("24 what " + what, State.ORDINARY, x -> x.laugh(8, 0, what), LONG_BAD);
            bad("25 what " + what, x -> x.lakes(1, 1, what));
            bad("31 what " + what, x -> x.write(0, what, 0));
        }
        changesNothing("24 one behind the last", State.ORDINARY, x -> x.laugh(8, 3, 0), LONG_BAD);
        changesNothing("24 no flights", State.NEW, x -> x.laugh(8, 0, 0), LONG_BAD);
        int[] noTimes = {0, 100, -1, LEAST, MOST};
        for (int n : noTimes) {
            bad("25 times " + n, x -> x.lakes(1, n, 0));
        }
        int[] noCounts = {-1, 9, LEAST, MOST};
        for (int what : noCounts) {
            bad("32 what " + what, x -> x.count(what));
        }
    }

    private static void sheetsBad() {
        int[] none = {-1, 4, LEAST, MOST};
        for (int s : none) {
            bad("11 sheet " + s, x -> x.read(s));
            bad("26 sheet " + s, x -> x.sheet(s, 0, 1));
            bad("26 sheet ahead of size " + s, x -> x.sheet(s, 0, -1));
            bad("27 sheet " + s, x -> x.lose(s));
            bad("28 sheet " + s, x -> x.lay(s, 0, 0, 1));
            changesNothing("29 sheet " + s, State.ORDINARY, x -> x.get(s, 0, 0), LEAST);
            bad("30 from " + s, x -> x.copy(s, 0, 0, 0, 1));
            bad("30 to " + s, x -> x.copy(0, 0, s, 0, 1));
            bad("30 to, ahead of a lost one " + s, x -> x.copy(3, 0, s, 0, 1));
            bad("30 from, ahead of a lost one " + s, x -> x.copy(s, 0, 3, 0, 1));
            bad("30 ahead of index " + s, x -> x.copy(0, -1, s, -1, -1));
            bad("31 sheet " + s, x -> x.write(0, 0, s));
        }
        int[] noForms = {-1, 3, LEAST, MOST};
        for (int form : noForms) {
            bad("26 form " + form, x -> x.sheet(0, form, 1));
            bad("26 form ahead of size " + form, x -> x.sheet(0, form, -1));
            bad("28 form ahead of null " + form, x -> x.lay(3, form, 0, 1));
            bad("28 form ahead of index " + form, x -> x.lay(0, form, -1, 1));
            changesNothing("29 form ahead of null " + form, State.ORDINARY, x -> x.get(3, form, 0), LEAST);
        }
        bad("26 61 items", x -> x.sheet(0, 0, 61));
        bad("26 many items", x -> x.sheet(0, 0, MOST));
        bad("31 flight ahead of a lost sheet", x -> x.write(8, 0, 3));
        bad("31 what ahead of a lost sheet", x -> x.write(0, 2, 3));
    }

    private static void sheetsFound() {
        found("11 a lost sheet", x -> x.read(3), NULL);
        found("26 below 0", x -> x.sheet(0, 0, -1), SIZE);
        found("26 far below 0", x -> x.sheet(1, 1, LEAST), SIZE);
        found("26 below 0, of a lost one", x -> x.sheet(3, 1, -1), SIZE);
        found("27 a lost sheet", x -> x.lose(3), NULL);
        found("28 a lost sheet", x -> x.lay(3, 0, 0, 1), NULL);
        found("28 null ahead of index", x -> x.lay(3, 0, -1, 1), NULL);
        found("29 a lost sheet", x -> x.get(3, 0, 0), LEAST, 1);
        found("29 null ahead of index", x -> x.get(3, 0, 60), LEAST, 1);
        found("31 a lost sheet", x -> x.write(0, 0, 3), NULL);
        for (int s = 0; s < 3; s++) {
            int told = s;
            int size = 4 + s;
            for (int form = 0; form < 3; form++) {
                int as = form;
                int[] indices = {0, size - 1, size, -1, 60, LEAST, MOST};
                for (int i : indices) {
                    boolean isThere = i >= 0 && i < size;
                    if (form != s) {
                        found("28 another form", x -> x.lay(told, as, i, 1), CAST);
                        found("29 another form", x -> x.get(told, as, i), LEAST, 3);
                    } else if (!isThere) {
                        found("28 no such item", x -> x.lay(told, as, i, 1), INDEX);
                        found("29 no such item", x -> x.get(told, as, i), LEAST, 2);
                    }
                }
            }
        }
    }

    private static void copies() {
        found("30 from a lost one", x -> x.copy(3, 0, 0, 0, 1), NULL);
        found("30 to a lost one", x -> x.copy(0, 0, 3, 0, 1), NULL);
        found("30 both lost", x -> x.copy(3, 0, 3, 0, 0), NULL);
        found("30 null ahead of index", x -> x.copy(3, -1, 0, -1, -1), NULL);
        found("30 unlike forms", x -> x.copy(0, 0, 1, 0, 1), STORE);
        found("30 unlike forms, no items", x -> x.copy(1, 0, 2, 0, 0), STORE);
        found("30 store ahead of index", x -> x.copy(2, -1, 0, 99, -1), STORE);
        found("30 from below 0", x -> x.copy(0, -1, 0, 0, 1), INDEX);
        found("30 to below 0", x -> x.copy(0, 0, 0, -1, 1), INDEX);
        found("30 fewer than none", x -> x.copy(0, 0, 0, 0, -1), INDEX);
        found("30 fewer than none, in the middle", x -> x.copy(0, 2, 0, 2, -1), INDEX);
        found("30 one more than there are", x -> x.copy(0, 0, 0, 0, 5), INDEX);
        found("30 one more from", x -> x.copy(0, 1, 0, 0, 4), INDEX);
        found("30 one more to", x -> x.copy(0, 0, 0, 1, 4), INDEX);
        found("30 none from behind the end", x -> x.copy(0, 5, 0, 0, 0), INDEX);
        found("30 none to behind the end", x -> x.copy(0, 0, 0, 5, 0), INDEX);
        int[] far = {LEAST, MOST, MOST - 3};
        for (int n : far) {
            found("30 far from " + n, x -> x.copy(1, n, 1, 0, 2), INDEX);
            found("30 far to " + n, x -> x.copy(1, 0, 1, n, 2), INDEX);
            found("30 far many " + n, x -> x.copy(1, 2, 1, 2, n), INDEX);
            found("30 far all " + n, x -> x.copy(1, n, 1, n, n), INDEX);
        }
        changesNothing("30 none", State.ORDINARY, x -> x.copy(0, 0, 0, 0, 0), 1);
        changesNothing("30 none at the end", State.ORDINARY, x -> x.copy(1, 5, 1, 5, 0), 1);
        changesNothing("30 all to where they are", State.ORDINARY, x -> x.copy(2, 0, 2, 0, 6), 1);
    }

    private static void asks(String what, ToLongFunction<BittenStick> call) {
        for (State state : State.values()) {
            changesNothing(what, state, call, call.applyAsLong(make(state)));
        }
    }

    /** What is only asked changes nothing, findings neither. */
    private static void questions() {
        asks("15", BittenStick::farthest);
        asks("33", BittenStick::digest);
        asks("25", x -> x.lakes(1, 99, 0) + 100 * x.lakes(LEAST, 1, 1));
        asks("6", x -> x.mile(0) + x.mile(23));
        asks("5", x -> x.fault(0) + x.fault(1) + x.fault(2));
        for (int flight = 0; flight < 3; flight++) {
            int told = flight;
            for (int what = 0; what < 4; what++) {
                int asked = what;
                asks("7", x -> x.passenger(told, asked));
                asks("8", x -> x.goose(told, asked));
                asks("13", x -> x.comes(told, asked));
                asks("14", x -> x.behind(told, 2, asked));
                asks("16", x -> x.climb(told, asked - 1));
                asks("17", x -> x.practice(told, asked));
                asks("18", x -> x.pair(told, asked));
            }
            asks("21", x -> x.sores(told));
            asks("22", x -> x.high(told));
            asks("23", x -> x.ask(told));
            asks("24", x -> x.laugh(8, told, 0));
            changesNothing("29", State.ORDINARY, x -> x.get(told, told, 3), 10 * told + 4);
        }
        for (int what = 0; what <= 8; what++) {
            int asked = what;
            asks("32", x -> x.count(asked));
        }
    }
}
