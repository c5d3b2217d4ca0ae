/** Promises 1 to 12: a new object, texts, what they tell, flights, what is learned. */
public final class TextPromisesTest {
    private static final int NONE = -1, BAD = -2, NOT = -3, FULL = -4;
    private static final Check check = new Check("TextPromisesTest");

    public static void main(String[] args) {
        newObject();
        type();
        wipeAndUndo();
        faultOfLand();
        faultOfPassengers();
        faultOfGeese();
        mile();
        passenger();
        goose();
        flightAndBack();
        read();
        learn();
        check.end();
    }

    private static void newObject() {
        BittenStick x = new BittenStick();
        for (int what = 0; what <= 8; what++) {
            check.due("1 count " + what, x.count(what), 0);
        }
        for (int s = 0; s < 4; s++) {
            check.due("1 lose " + s, x.lose(s), -11);
        }
        check.due("1 mile", x.mile(0), NONE);
        check.due("1 passenger", x.passenger(0, 0), BAD);
        check.due("1 goose", x.goose(0, 0), BAD);
        check.due("1 farthest", x.farthest(), NONE);
        check.due("1 learned", x.learn(0), 0);
    }

    private static void type() {
        int[] limits = {24, 39, 23};
        BittenStick x = new BittenStick();
        for (int text = 0; text < 3; text++) {
            for (int i = 0; i < limits[text]; i++) {
                check.due("2 type", x.type(text, i % 2 == 0 ? 0 : 255), i + 1);
            }
            check.due("2 full", x.type(text, 97), FULL);
            check.due("2 bad ahead of full", x.type(text, 256), BAD);
            check.due("2 bytes", x.count(3 + text), limits[text]);
        }
        BittenStick y = new BittenStick();
        check.due("2 byte 256", y.type(0, 256), BAD);
        check.due("2 byte -1", y.type(0, -1), BAD);
        check.due("2 text 3", y.type(3, 97), BAD);
        check.due("2 text -1", y.type(-1, 97), BAD);
        check.due("2 nothing came", y.count(3), 0);
    }

    private static void wipeAndUndo() {
        BittenStick x = Check.stick("abc", "ta11", "11;2");
        check.due("3 wipe", x.wipe(0), 3);
        check.due("3 wipe again", x.wipe(0), 0);
        check.due("3 no miles", x.count(0), 0);
        check.due("3 others stay", x.count(1), 1);
        check.due("3 bad", x.wipe(3), BAD);
        check.due("3 bad", x.wipe(-1), BAD);
        check.due("4 undo", x.undo(2), 3);
        check.due("4 undo", x.undo(2), 2);
        check.due("4 geese again", x.count(2), 1);
        check.due("4 undo", x.undo(2), 1);
        check.due("4 undo", x.undo(2), 0);
        check.due("4 empty", x.undo(2), NOT);
        check.due("4 bad", x.undo(3), BAD);
        check.due("4 bad", x.undo(-1), BAD);
        check.due("4 typed again", x.type(2, '9'), 1);
        check.due("4 typed again", x.type(2, '0'), 2);
        check.due("4 as typed", x.goose(0, 0), 9);
    }

    private static void faultOfLand() {
        String good = "abcdefoiw";
        for (int b = 0; b < 256; b++) {
            BittenStick x = new BittenStick();
            x.type(0, 'o');
            x.type(0, b);
            check.due("5 land " + b, x.fault(0), good.indexOf(b) >= 0 ? NONE : 1);
            check.due("5 miles " + b, x.count(0), good.indexOf(b) >= 0 ? 2 : 0);
        }
        BittenStick y = Check.stick("oxox", "", "");
        check.due("5 the first", y.fault(0), 1);
        check.due("5 empty", y.fault(1), NONE);
        check.due("5 bad", y.fault(3), BAD);
        check.due("5 bad", y.fault(-1), BAD);
    }

    private static void faultOfPassengers() {
        String whole = "tf99;da11;pb22;sc33;td44;te55;tf66;ta77";
        String[] may = {"tdps", "abcdef", "123456789", "123456789", ";"};
        for (int place = 0; place < whole.length(); place++) {
            for (int b = 0; b < 256; b++) {
                BittenStick x = Check.stick("", whole.substring(0, place), "");
                x.type(1, b);
                boolean fits = may[place % 5].indexOf(b) >= 0;
                int due = !fits ? place : place % 5 == 3 ? NONE : place + 1;
                check.due("5 passengers " + place + " " + b, x.fault(1), due);
                check.due("5 passengers number", x.count(1), due == NONE ? place / 5 + 1 : 0);
            }
        }
    }

    private static void faultOfGeese() {
        String whole = "90;11;22;33;44;55;66;79";
        String[] may = {"123456789", "0123456789", ";"};
        for (int place = 0; place < whole.length(); place++) {
            for (int b = 0; b < 256; b++) {
                BittenStick x = Check.stick("", "", whole.substring(0, place));
                x.type(2, b);
                boolean fits = may[place % 3].indexOf(b) >= 0;
                int due = !fits ? place : place % 3 == 1 ? NONE : place + 1;
                check.due("5 geese " + place + " " + b, x.fault(2), due);
                check.due("5 geese number", x.count(2), due == NONE ? place / 3 + 1 : 0);
            }
        }
    }

    private static void mile() {
        BittenStick x = Check.stick("abcdefoiw", "", "");
        for (int mile = 0; mile < 9; mile++) {
            check.due("6 mile " + mile, x.mile(mile), mile);
        }
        check.due("6 none", x.mile(9), NONE);
        check.due("6 none", x.mile(23), NONE);
        check.due("6 bad", x.mile(24), BAD);
        check.due("6 bad", x.mile(-1), BAD);
        x.type(0, 'x');
        check.due("6 with a fault", x.mile(0), NONE);
        x.undo(0);
        check.due("6 without it", x.mile(0), 0);
    }

    private static void passenger() {
        BittenStick x = Check.stick("", "ta19;db28;pc37;sf91", "");
        int[][] due = {{0, 0, 1, 9}, {1, 1, 2, 8}, {2, 2, 3, 7}, {3, 5, 9, 1}};
        for (int p = 0; p < 4; p++) {
            for (int what = 0; what < 4; what++) {
                check.due("7 passenger " + p + " " + what, x.passenger(p, what), due[p][what]);
            }
        }
        check.due("7 bad", x.passenger(4, 0), BAD);
        check.due("7 bad", x.passenger(-1, 0), BAD);
        check.due("7 bad", x.passenger(0, 4), BAD);
        check.due("7 bad", x.passenger(0, -1), BAD);
        x.type(1, ';');
        check.due("7 with a fault", x.passenger(0, 0), BAD);
    }

    private static void goose() {
        BittenStick x = Check.stick("", "", "10;95;59");
        int[][] due = {{1, 0}, {9, 5}, {5, 9}};
        for (int g = 0; g < 3; g++) {
            check.due("8 strong " + g, x.goose(g, 0), due[g][0]);
            check.due("8 tires " + g, x.goose(g, 1), due[g][1]);
        }
        check.due("8 bad", x.goose(3, 0), BAD);
        check.due("8 bad", x.goose(-1, 0), BAD);
        check.due("8 bad", x.goose(0, 2), BAD);
        check.due("8 bad", x.goose(0, -1), BAD);
        x.undo(2);
        check.due("8 with a fault", x.goose(0, 0), BAD);
    }

    private static void flightAndBack() {
        BittenStick x = new BittenStick();
        int[][] bad = {{-1, 0, 1, 1}, {8, 0, 1, 1}, {0, -1, 1, 1}, {0, 8, 1, 1}, {0, 0, -1, 1}, {0, 0, 8, 1},
            {0, 3, 3, 1}, {0, 0, 1, 0}, {0, 0, 1, 10}};
        check.due("10 none", x.back(), NOT);
        for (int[] f : bad) {
            check.due("9 bad", x.flight(f[0], f[1], f[2], f[3]), BAD);
        }
        check.due("9 none came", x.count(6), 0);
        for (int i = 0; i < 8; i++) {
            check.due("9 flight", x.flight(7 - i, i, 7 - i, i + 1), i + 1);
        }
        check.due("9 full", x.flight(0, 0, 1, 1), FULL);
        for (int[] f : bad) {
            check.due("9 bad ahead of full", x.flight(f[0], f[1], f[2], f[3]), BAD);
        }
        for (int i = 7; i >= 0; i--) {
            check.due("10 back", x.back(), i);
        }
        check.due("10 none left", x.back(), NOT);
        check.due("9 highest", x.flight(0, 0, 1, 9), 1);
    }

    private static void read() {
        BittenStick x = new BittenStick();
        check.due("11 bad", x.read(4), BAD);
        check.due("11 bad", x.read(-1), BAD);
        check.due("11 null", x.read(3), -11);
        check.due("11 finding", x.count(8), 1);
        int[] items = {0, 1, 0, 4, 7, 6, 5, 9, 1, 2, 2, 3, 0, 0, 1, 1};
        for (int form = 0; form < 3; form++) {
            x.sheet(form, form, 16);
            for (int i = 0; i < items.length; i++) {
                x.lay(form, form, i, items[i]);
            }
        }
        check.due("11 until one may not be", x.read(0), 2);
        check.due("11 flights", x.count(6), 2);
        check.due("11 shorts", x.read(1), 2);
        check.due("11 ints", x.read(2), 2);
        x.lay(2, 2, 9, 1);
        check.due("11 until it is full", x.read(2), 2);
        check.due("11 full", x.count(6), 8);
        check.due("11 none", x.read(2), 0);
        x.sheet(0, 2, 7);
        for (int i = 0; i < 7; i++) {
            x.lay(0, 2, i, items[i]);
        }
        x.back();
        x.back();
        check.due("11 whole ones", x.read(0), 1);
        x.sheet(1, 0, 3);
        check.due("11 none whole", x.read(1), 0);
        x.sheet(1, 0, 0);
        check.due("11 empty", x.read(1), 0);
        BittenStick y = Check.stick("ooo", "ta11", "90;10");
        y.sheet(0, 1, 4);
        y.lay(0, 1, 1, 1);
        y.lay(0, 1, 3, 6);
        check.due("11 read", y.read(0), 1);
        check.due("11 its left one", y.behind(0, 0, 2), 1);
        check.due("11 its right one", y.behind(0, 0, 3), 9);
        check.due("11 its height", y.behind(0, 0, 1), 1);
    }

    private static void learn() {
        BittenStick x = new BittenStick();
        check.due("12 none at first", x.learn(63), 0);
        check.due("12 bad", x.learn(64), BAD);
        check.due("12 bad", x.learn(-1), BAD);
        check.due("12 were", x.learn(5), 63);
        check.due("12 were", x.learn(0), 5);
    }
}
