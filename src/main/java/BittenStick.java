/** Two geese carry a passenger by a stick that it bites; ../shared/DOC.md tells what each call answers. */
public final class BittenStick {
    public static final int NONE = -1, BAD = -2, NOT = -3, FULL = -4;

    private static final int NULL = 1, INDEX = 2, CAST = 3, STORE = 4, SIZE = 5;
    private static final int CALLS = 6, OPEN = 6, ISLAND = 7, WIND = 8;
    private static final int DEAF = 1, PROUD = 2, SLEEPY = 3;
    private static final int ARRIVES = 0, NOT_CARRIED = 1, FROZEN = 2, SPEAKS = 3;
    private static final int MOST_MILES = 24, MOST_TOWNS_BY_CHANCE = 10;
    private static final int HIGHEST = 9, MOST_FLIGHTS = 8, MOST_SEEN = 8, SHEETS = 4, MOST_ITEMS = 60;
    private static final int MOST_BORNE = 45;
    private static final int LEAST_INT = 1 << 31;
    private static final long LEAST_LONG = 1L << 63;

    private final Land land = new Land();
    private final Passengers passengers = new Passengers();
    private final Geese geese = new Geese();
    private final Flights flights = new Flights();
    private final Trip trip = new Trip(land, passengers, geese);
    private final Climb best = new Climb();
    private final Laughter laughter = new Laughter();
    private final Lots lots = new Lots();
    private final int[] seenFlights = new int[MOST_SEEN];
    private final int[] seenMiles = new int[MOST_SEEN];
    private final int[] comers = new int[MOST_MILES + 1];
    private final Sheet[] sheets = new Sheet[SHEETS];
    private int seenNumber;
    private int learned;
    private int finding;

    public BittenStick() {
        for (int s = 0; s < SHEETS; s++) {
            sheets[s] = new Sheet();
        }
    }

    // ---- the land, passengers, geese, flights

    public int type(int text, int b) {
        Text told = textOf(text);
        if (told == null || b < 0 || b > 255) {
            return BAD;
        }
        if (told.isFull()) {
            return FULL;
        }
        told.append(b);
        return told.length;
    }

    public int wipe(int text) {
        Text told = textOf(text);
        if (told == null) {
            return BAD;
        }
        int had = told.length;
        told.shorten(0);
        return had;
    }

    public int undo(int text) {
        Text told = textOf(text);
        if (told == null) {
            return BAD;
        }
        if (told.length == 0) {
            return NOT;
        }
        told.shorten(told.length - 1);
        return told.length;
    }

    public int fault(int text) {
        Text told = textOf(text);
        return told == null ? BAD : told.faultAt;
    }

    public int mile(int mile) {
        if (mile < 0 || mile >= MOST_MILES) {
            return BAD;
        }
        return mile < land.number ? land.valueAt(mile) : NONE;
    }

    public int passenger(int passenger, int what) {
        if (!passengers.has(passenger) || what < 0 || what > 3) {
            return BAD;
        }
        return passengers.told(passenger, what);
    }

    public int goose(int goose, int what) {
        if (!geese.has(goose) || what < 0 || what > 1) {
            return BAD;
        }
        return geese.told(goose, what);
    }

    public int flight(int passenger, int left, int right, int height) {
        return flights.append(passenger, left, right, height);
    }

    public int back() {
        if (flights.number == 0) {
            return NOT;
        }
        flights.number--;
        return flights.number;
    }

    public int read(int s) {
        Sheet sheet = sheetOf(s);
        if (sheet == null) {
            return BAD;
        }
        if (sheet.isLost) {
            return found(NULL);
        }
        int added = 0;
        for (int i = 0; i + 3 < sheet.size; i += 4) {
            int number = flights.append(sheet.item(i), sheet.item(i + 1), sheet.item(i + 2), sheet.item(i + 3));
            if (number < 0) {
                return added;
            }
            added++;
        }
        return added;
    }

    public int learn(int calls) {
        if (calls < 0 || calls >= 1 << CALLS) {
            return BAD;
        }
        int were = learned;
        learned = calls;
        return were;
    }

    // ---- flights

    public int comes(int flight, int what) {
        if (!flights.has(flight) || what < 0 || what > 2) {
            return BAD;
        }
        prepare(flight);
        int to = trip.comesTo(flights.heightOf(flight));
        if (what == 0) {
            return to;
        }
        if (what == 1) {
            return trip.end;
        }
        boolean overTown = trip.end != ARRIVES && land.isTown(to);
        return overTown ? land.valueAt(to) : NONE;
    }

    public int behind(int flight, int mile, int what) {
        if (!flights.has(flight) || !land.has(mile) || what < 0 || what > 3) {
            return BAD;
        }
        prepare(flight);
        return what < 2 ? moodBehind(flight, mile, what) : strengthBehind(flight, mile, what);
    }

    public int farthest() {
        int farthest = NONE;
        int most = NONE;
        for (int flight = 0; flight < flights.number; flight++) {
            prepare(flight);
            int to = trip.comesTo(flights.heightOf(flight));
            // Without miles he who arrives comes no farther than he who stays, yet is ahead of him.
            int merit = 2 * to + (trip.end == ARRIVES ? 1 : 0);
            if (merit > most) {
                most = merit;
                farthest = flight;
            }
        }
        return farthest;
    }

    // ---- plans

    public int climb(int flight, int i) {
        if (!flights.has(flight) || i < NONE || i > 2) {
            return BAD;
        }
        prepare(flight);
        best.plan(trip, land.number);
        return best.told(i);
    }

    public int practice(int flight, int what) {
        if (!flights.has(flight) || what < 0 || what > 1) {
            return BAD;
        }
        prepare(flight);
        int fewest = CALLS + 1;
        int bits = NONE;
        for (int calls = 0; calls < 1 << CALLS; calls++) {
            int number = Integer.bitCount(calls);
            if (number < fewest) {
                trip.learned = calls;
                trip.comesTo(flights.heightOf(flight));
                if (trip.end == ARRIVES) {
                    fewest = number;
                    bits = calls;
                }
            }
        }
        if (bits == NONE) {
            return NONE;
        }
        return what == 0 ? fewest : bits;
    }

    public int pair(int flight, int what) {
        if (!flights.has(flight) || what < 0 || what > 1) {
            return BAD;
        }
        prepare(flight);
        int far = NONE;
        int which = NONE;
        for (int left = 0; left < geese.number; left++) {
            for (int right = 0; right < geese.number; right++) {
                if (left != right) {
                    trip.board(flights.passengerOf(flight), left, right);
                    int to = trip.comesTo(flights.heightOf(flight));
                    if (to > far) {
                        far = to;
                        which = 8 * left + right;
                    }
                }
            }
        }
        return what == 0 ? which : far;
    }

    // ---- seen, laughter, lakes

    public int seen(int flight, int mile) {
        if (flight < 0 || flight >= MOST_FLIGHTS || mile < 0 || mile > MOST_MILES) {
            return BAD;
        }
        if (seenNumber < 0 || seenNumber >= MOST_SEEN) {
            return FULL;
        }
        seenFlights[seenNumber] = flight;
        seenMiles[seenNumber] = mile;
        seenNumber++;
        return seenNumber;
    }

    public int forget() {
        int forgotten = seenNumber;
        seenNumber = 0;
        return forgotten;
    }

    public int sores(int passenger) {
        if (!passengers.has(passenger)) {
            return BAD;
        }
        int bits = 0;
        for (int call = 0; call < CALLS; call++) {
            if (agreesWithSeen(passenger, call, NONE, NONE)) {
                bits |= 1 << call;
            }
        }
        return bits;
    }

    public int high(int flight) {
        if (!flights.has(flight)) {
            return BAD;
        }
        int bits = 0;
        for (int height = 1; height <= HIGHEST; height++) {
            if (agreesWithSeen(NONE, NONE, flight, height)) {
                bits |= 1 << height;
            }
        }
        return bits;
    }

    public int ask(int passenger) {
        if (!passengers.has(passenger)) {
            return BAD;
        }
        int possible = sores(passenger);
        int asked = NONE;
        int least = CALLS + 1;
        for (int flight = 0; flight < flights.number; flight++) {
            int most = mostAlike(flight, passenger, possible);
            if (most < least) {
                least = most;
                asked = flight;
            }
        }
        return asked;
    }

    public long laugh(int c, int flight, int what) {
        if (c < 0 || c > 16 || !flights.has(flight) || what < 0 || what > 1
                || land.towns() > MOST_TOWNS_BY_CHANCE) {
            return LEAST_LONG - BAD;
        }
        prepare(flight);
        laughter.weigh(c, trip, flights.heightOf(flight));
        return what == 0 ? laughter.above : laughter.below;
    }

    public int lakes(int seed, int n, int what) {
        if (n < 1 || n > 99 || what < 0 || what > 1) {
            return BAD;
        }
        if (passengers.number < 1 || geese.number < 2) {
            return 0;
        }
        lots.seed = seed;
        trip.learned = learned;
        int wanted = what == 0 ? ARRIVES : SPEAKS;
        int number = 0;
        for (int time = 0; time < n; time++) {
            int passenger = lots.draw(passengers.number);
            int left = lots.draw(geese.number);
            int right = lots.draw(geese.number - 1);
            trip.board(passenger, left, right < left ? right : right + 1);
            trip.comesTo(lots.draw(HIGHEST) + 1);
            if (trip.end == wanted) {
                number++;
            }
        }
        return number;
    }

    // ---- sheets

    public int sheet(int s, int form, int n) {
        Sheet sheet = sheetOf(s);
        if (sheet == null || !isForm(form) || n > MOST_ITEMS) {
            return BAD;
        }
        if (n < 0) {
            return found(SIZE);
        }
        sheet.renew(form, n);
        return n;
    }

    public int lose(int s) {
        Sheet sheet = sheetOf(s);
        if (sheet == null) {
            return BAD;
        }
        if (sheet.isLost) {
            return found(NULL);
        }
        sheet.isLost = true;
        return sheet.size;
    }

    public int lay(int s, int form, int i, int v) {
        Sheet sheet = sheetOf(s);
        if (sheet == null || !isForm(form)) {
            return BAD;
        }
        int refusal = itemRefusal(sheet, form, i);
        if (refusal != 0) {
            return refusal;
        }
        sheet.put(i, v);
        return 1;
    }

    public int get(int s, int form, int i) {
        Sheet sheet = sheetOf(s);
        if (sheet == null || !isForm(form) || itemRefusal(sheet, form, i) != 0) {
            return LEAST_INT;
        }
        return sheet.item(i);
    }

    public int copy(int s, int i, int t, int j, int n) {
        Sheet from = sheetOf(s);
        Sheet to = sheetOf(t);
        if (from == null || to == null) {
            return BAD;
        }
        if (from.isLost || to.isLost) {
            return found(NULL);
        }
        if (from.form != to.form) {
            return found(STORE);
        }
        if (!from.hasItems(i, n) || !to.hasItems(j, n)) {
            return found(INDEX);
        }
        System.arraycopy(from.items, i, to.items, j, n);
        return 1;
    }

    public int write(int flight, int what, int s) {
        Sheet sheet = sheetOf(s);
        if (!flights.has(flight) || what < 0 || what > 1 || sheet == null) {
            return BAD;
        }
        if (sheet.isLost) {
            return found(NULL);
        }
        prepare(flight);
        int number = Math.min(sheet.size, land.number);
        for (int mile = 0; mile < number; mile++) {
            sheet.put(mile, moodBehind(flight, mile, what));
        }
        return number;
    }

    public int count(int what) {
        switch (what) {
            case 0: return land.number;
            case 1: return passengers.number;
            case 2: return geese.number;
            case 3: return land.length;
            case 4: return passengers.length;
            case 5: return geese.length;
            case 6: return flights.number;
            case 7: return seenNumber;
            case 8: return finding;
            default: return BAD;
        }
    }

    public long digest() {
        long h = 17;
        for (int what = 0; what <= 7; what++) {
            h = 31 * h + count(what);
        }
        for (int text = 0; text < 3; text++) {
            h = 31 * h + fault(text);
        }
        for (int mile = 0; mile < land.number; mile++) {
            h = 31 * h + mile(mile);
        }
        for (int passenger = 0; passenger < passengers.number; passenger++) {
            for (int what = 0; what <= 3; what++) {
                h = 31 * h + passenger(passenger, what);
            }
            h = 31 * h + sores(passenger);
            h = 31 * h + ask(passenger);
        }
        for (int goose = 0; goose < geese.number; goose++) {
            h = 31 * h + goose(goose, 0);
            h = 31 * h + goose(goose, 1);
        }
        for (int flight = 0; flight < flights.number; flight++) {
            h = mixFlight(h, flight);
        }
        h = 31 * h + farthest();
        h = 31 * h + lakes(7, 30, 0);
        return 31 * h + lakes(7, 30, 1);
    }

    private long mixFlight(long before, int flight) {
        long h = before;
        for (int what = 0; what <= 2; what++) {
            h = 31 * h + comes(flight, what);
        }
        for (int what = 0; what <= 3; what++) {
            h = 31 * h + behind(flight, 3, what);
        }
        // climb() plans anew at each call: here one plan serves all four answers.
        h = 31 * h + climb(flight, NONE);
        for (int i = 0; i <= 2; i++) {
            h = 31 * h + best.told(i);
        }
        for (int what = 0; what <= 1; what++) {
            h = 31 * h + practice(flight, what);
        }
        for (int what = 0; what <= 1; what++) {
            h = 31 * h + pair(flight, what);
        }
        h = 31 * h + high(flight);
        for (int what = 0; what <= 1; what++) {
            h = 31 * h + laugh(5, flight, what);
        }
        return h;
    }

    // ---- what the calls share

    private Text textOf(int text) {
        switch (text) {
            case 0: return land;
            case 1: return passengers;
            case 2: return geese;
            default: return null;
        }
    }

    private Sheet sheetOf(int s) {
        return s >= 0 && s < sheets.length ? sheets[s] : null;
    }

    private static boolean isForm(int form) {
        return form >= 0 && form <= 2;
    }

    private int found(int number) {
        finding = number;
        return -10 - number;
    }

    private int itemRefusal(Sheet sheet, int form, int i) {
        if (sheet.isLost) {
            return found(NULL);
        }
        if (sheet.form != form) {
            return found(CAST);
        }
        return sheet.hasItems(i, 1) ? 0 : found(INDEX);
    }

    private void prepare(int flight) {
        trip.learned = learned;
        trip.board(flights.passengerOf(flight), flights.leftOf(flight), flights.rightOf(flight));
    }

    /** Anger (what = 0) or cold (1) of the flight that was prepared. */
    private int moodBehind(int flight, int mile, int what) {
        trip.setOut();
        int to = trip.goOn(0, mile + 1, flights.heightOf(flight));
        if (!trip.goes || to < mile) {
            return NONE;
        }
        return what == 0 ? trip.anger : trip.cold;
    }

    /** How strong the goose on the left (what = 2) or on the right (3) is in the flight that was prepared. */
    private int strengthBehind(int flight, int mile, int what) {
        int to = trip.comesTo(flights.heightOf(flight));
        if (!trip.goes || to < mile) {
            return NONE;
        }
        trip.flyGeese(mile, to > mile);
        return what == 2 ? trip.left.strong : trip.right.strong;
    }

    /** Whether all that was seen comes out so with that sore of a passenger, or that height of a flight. */
    private boolean agreesWithSeen(int passenger, int sore, int flight, int height) {
        trip.learned = learned;
        for (int i = 0; i < seenNumber && i < MOST_SEEN; i++) {
            int flown = seenFlights[i];
            if (!flights.has(flown)) {
                return false;
            }
            int flier = flights.passengerOf(flown);
            // Not by prepare(): digest() comes here through ask() and sores(), and calls may not go deeper than eight.
            trip.board(flier, flights.leftOf(flown), flights.rightOf(flown));
            if (flier == passenger) {
                trip.sore = sore;
            }
            int to = trip.comesTo(flown == flight ? height : flights.heightOf(flown));
            if (to != seenMiles[i]) {
                return false;
            }
        }
        return true;
    }

    /** The greatest number of a passenger's possible sores by which a flight comes to the same mile. */
    private int mostAlike(int flight, int passenger, int possible) {
        prepare(flight);
        for (int mile = 0; mile < comers.length; mile++) {
            comers[mile] = 0;
        }
        int most = 0;
        for (int call = 0; call < CALLS; call++) {
            if ((possible >> call & 1) == 1) {
                if (flights.passengerOf(flight) == passenger) {
                    trip.sore = call;
                }
                int to = trip.comesTo(flights.heightOf(flight));
                if (to >= 0 && to < comers.length) {
                    comers[to]++;
                    most = Math.max(most, comers[to]);
                }
            }
        }
        return most;
    }

    /** A text, of which only the worth of each byte at its place is kept: NONE where it cannot stand there. */
    private abstract static class Text {
        final int[] values;
        int length;
        int faultAt = NONE;
        int number;

        Text(int limit) {
            values = new int[Math.max(0, limit)];
        }

        abstract int worth(int place, int b);

        /** How many things so many bytes tell; NONE: the last is not ended. */
        abstract int thingsIn(int bytes);

        boolean isFull() {
            return length >= values.length;
        }

        void append(int b) {
            if (length >= 0 && length < values.length) {
                values[length] = worth(length, b);
                length++;
                readAgain();
            }
        }

        void shorten(int left) {
            length = Math.max(0, Math.min(left, length));
            readAgain();
        }

        int valueAt(int place) {
            return place >= 0 && place < values.length ? values[place] : NONE;
        }

        boolean has(int thing) {
            return thing >= 0 && thing < number;
        }

        private void readAgain() {
            faultAt = NONE;
            for (int place = 0; place < length && faultAt == NONE; place++) {
                if (valueAt(place) == NONE) {
                    faultAt = place;
                }
            }
            int things = thingsIn(length);
            if (faultAt == NONE && things == NONE) {
                faultAt = length;
            }
            number = faultAt == NONE ? things : 0;
        }
    }

    private static final class Land extends Text {
        Land() {
            super(MOST_MILES);
        }

        int worth(int place, int b) {
            if (b >= 'a' && b <= 'f') {
                return b - 'a';
            }
            switch (b) {
                case 'o': return OPEN;
                case 'i': return ISLAND;
                case 'w': return WIND;
                default: return NONE;
            }
        }

        int thingsIn(int bytes) {
            return bytes;
        }

        boolean isTown(int mile) {
            return has(mile) && valueAt(mile) < CALLS;
        }

        int towns() {
            int towns = 0;
            for (int mile = 0; mile < number; mile++) {
                if (isTown(mile)) {
                    towns++;
                }
            }
            return towns;
        }
    }

    private static final class Passengers extends Text {
        Passengers() {
            super(39);
        }

        int worth(int place, int b) {
            switch (place % 5) {
                case 0: return kind(b);
                case 1: return b >= 'a' && b <= 'f' ? b - 'a' : NONE;
                case 4: return b == ';' ? 0 : NONE;
                default: return b >= '1' && b <= '9' ? b - '0' : NONE;
            }
        }

        private static int kind(int b) {
            switch (b) {
                case 't': return 0;
                case 'd': return DEAF;
                case 'p': return PROUD;
                case 's': return SLEEPY;
                default: return NONE;
            }
        }

        int thingsIn(int bytes) {
            if (bytes == 0) {
                return 0;
            }
            return bytes % 5 == 4 ? (bytes + 1) / 5 : NONE;
        }

        int told(int passenger, int what) {
            return valueAt(5 * passenger + what);
        }
    }

    private static final class Geese extends Text {
        Geese() {
            super(23);
        }

        int worth(int place, int b) {
            switch (place % 3) {
                case 0: return b >= '1' && b <= '9' ? b - '0' : NONE;
                case 1: return b >= '0' && b <= '9' ? b - '0' : NONE;
                default: return b == ';' ? 0 : NONE;
            }
        }

        int thingsIn(int bytes) {
            if (bytes == 0) {
                return 0;
            }
            return bytes % 3 == 2 ? (bytes + 1) / 3 : NONE;
        }

        int told(int goose, int what) {
            return valueAt(3 * goose + what);
        }
    }

    private static final class Flights {
        private final int[] items = new int[4 * MOST_FLIGHTS];
        int number;

        int append(int passenger, int left, int right, int height) {
            if (passenger < 0 || passenger > 7 || left < 0 || left > 7 || right < 0 || right > 7
                    || left == right || height < 1 || height > HIGHEST) {
                return BAD;
            }
            if (number < 0 || number >= MOST_FLIGHTS) {
                return FULL;
            }
            items[4 * number] = passenger;
            items[4 * number + 1] = left;
            items[4 * number + 2] = right;
            items[4 * number + 3] = height;
            number++;
            return number;
        }

        boolean has(int flight) {
            return flight >= 0 && flight < number;
        }

        int passengerOf(int flight) {
            return item(flight, 0);
        }

        int leftOf(int flight) {
            return item(flight, 1);
        }

        int rightOf(int flight) {
            return item(flight, 2);
        }

        int heightOf(int flight) {
            return item(flight, 3);
        }

        private int item(int flight, int i) {
            return has(flight) && 4 * flight + i < items.length ? items[4 * flight + i] : NONE;
        }
    }

    private static final class Goose {
        int told;
        int tires;
        int strong;
        int flown;

        void setOut() {
            strong = told;
            flown = 0;
        }

        void flyMile() {
            flown++;
            if (flown == tires) {
                strong--;
                flown = 0;
            }
        }

        void rest() {
            if (strong < told) {
                strong++;
            }
        }
    }

    /**
     * A passenger and two geese over the land. How far they carry hangs neither on heights nor on calls, so it is
     * found once, when they are boarded, and the passenger may then be flown by many heights, sores and calls.
     */
    private static final class Trip {
        final Land land;
        private final Passengers passengers;
        private final Geese geese;
        private final Goose toldLeft = new Goose();
        private final Goose toldRight = new Goose();
        Goose left = toldLeft;
        Goose right = toldRight;
        boolean goes;
        int carriedTo;
        int kind;
        int sore;
        int bears;
        int weight;
        int learned;
        int anger;
        int cold;
        int end;

        Trip(Land land, Passengers passengers, Geese geese) {
            this.land = land;
            this.passengers = passengers;
            this.geese = geese;
        }

        void board(int passenger, int leftGoose, int rightGoose) {
            goes = passengers.has(passenger) && geese.has(leftGoose) && geese.has(rightGoose);
            carriedTo = 0;
            if (goes) {
                kind = passengers.told(passenger, 0);
                sore = passengers.told(passenger, 1);
                bears = 5 * passengers.told(passenger, 2);
                weight = passengers.told(passenger, 3);
                toldLeft.told = geese.told(leftGoose, 0);
                toldLeft.tires = geese.told(leftGoose, 1);
                toldRight.told = geese.told(rightGoose, 0);
                toldRight.tires = geese.told(rightGoose, 1);
                carriedTo = flyGeese(land.number - 1, true);
            }
        }

        /** Flies the geese over miles 0 to last: the mile on which they no longer carry, or the one behind last. */
        int flyGeese(int last, boolean restOnLast) {
            left = toldLeft;
            right = toldRight;
            left.setOut();
            right.setOut();
            for (int mile = 0; mile <= last; mile++) {
                int over = land.valueAt(mile);
                if (over == WIND) {
                    Goose other = left;
                    left = right;
                    right = other;
                }
                left.flyMile();
                right.flyMile();
                if (left.strong < (weight + 1) / 2 || right.strong < weight / 2) {
                    return mile;
                }
                if (over == ISLAND && (mile < last || restOnLast)) {
                    left.rest();
                    right.rest();
                }
            }
            return last + 1;
        }

        void setOut() {
            anger = 0;
            cold = 0;
            end = goes ? ARRIVES : NOT_CARRIED;
        }

        int comesTo(int height) {
            setOut();
            return goOn(0, land.number, height);
        }

        /** Flies the miles from one on, ahead of another: the mile on which he falls, or that other one. */
        int goOn(int from, int to, int height) {
            int chill = Math.max(0, height - 5);
            for (int mile = from; mile < to; mile++) {
                if (mile >= carriedTo) {
                    end = NOT_CARRIED;
                    return mile;
                }
                cold += chill;
                if (cold > 20) {
                    end = FROZEN;
                    return mile;
                }
                int over = land.valueAt(mile);
                if (over < CALLS) {
                    anger += insult(over, height);
                    if (anger > bears) {
                        end = SPEAKS;
                        return mile;
                    }
                } else if (over == ISLAND) {
                    anger = 0;
                    cold = 0;
                }
            }
            return to;
        }

        int insult(int call, int height) {
            if ((learned >> call & 1) == 1 || kind == DEAF || kind == SLEEPY && height >= 7) {
                return 0;
            }
            int laughter = call == sore ? 2 * (10 - height) : 10 - height;
            return kind == PROUD ? laughter + 1 : laughter;
        }
    }

    /** The least row of a height, a mile and another height by which a trip comes farthest. */
    private static final class Climb {
        int far;
        int first;
        int turn;
        int second;

        int told(int i) {
            switch (i) {
                case 0: return first;
                case 1: return turn;
                case 2: return second;
                default: return far;
            }
        }

        void plan(Trip trip, int miles) {
            far = NONE;
            // Rows come in their order, and none is farther than the geese carry.
            for (int height = 1; height <= HIGHEST && far < trip.carriedTo; height++) {
                trip.setOut();
                boolean flies = true;
                for (int mile = 1; mile < MOST_MILES && flies && far < trip.carriedTo; mile++) {
                    int to = trip.goOn(mile - 1, Math.min(mile, miles), height);
                    flies = to == mile;
                    if (flies) {
                        trySecond(trip, miles, height, mile);
                    } else {
                        // He never comes to that mile, so the height from there on changes nothing.
                        note(to, height, mile, 1);
                    }
                }
            }
        }

        private void trySecond(Trip trip, int miles, int height, int mile) {
            int anger = trip.anger;
            int cold = trip.cold;
            for (int other = 1; other <= HIGHEST; other++) {
                note(trip.goOn(mile, miles, other), height, mile, other);
                trip.anger = anger;
                trip.cold = cold;
            }
        }

        private void note(int to, int height, int mile, int other) {
            if (to > far) {
                far = to;
                first = height;
                turn = mile;
                second = other;
            }
        }
    }

    /** The chance that a trip arrives where towns call by chance: weights of each anger, mile by mile. */
    private static final class Laughter {
        private final long[] chances = new long[MOST_BORNE + 1];
        long above;
        long below;

        void weigh(int c, Trip trip, int height) {
            above = 0;
            below = 1;
            if (!trip.goes || trip.carriedTo < trip.land.number) {
                return;
            }
            startCalm(1);
            int cold = 0;
            for (int mile = 0; mile < trip.land.number; mile++) {
                cold += Math.max(0, height - 5);
                if (cold > 20) {
                    below = 1;
                    return;
                }
                int over = trip.land.valueAt(mile);
                if (over == ISLAND) {
                    startCalm(sum());
                    cold = 0;
                } else if (over < CALLS) {
                    hear(c, trip.insult(over, height), trip.bears);
                }
            }
            above = sum();
            reduce();
        }

        private void startCalm(long weight) {
            for (int anger = 1; anger < chances.length; anger++) {
                chances[anger] = 0;
            }
            chances[0] = weight;
        }

        private void hear(int c, int insult, int bears) {
            if (insult <= 0) {
                return;
            }
            below *= 16;
            for (int anger = Math.min(bears, MOST_BORNE); anger >= 0; anger--) {
                long called = anger >= insult ? chances[anger - insult] * c : 0;
                chances[anger] = chances[anger] * (16 - c) + called;
            }
        }

        private long sum() {
            long sum = 0;
            for (int anger = 0; anger < chances.length; anger++) {
                sum += chances[anger];
            }
            return sum;
        }

        /** What stands below is a power of two, so only twos can be shared; 0 shares them all. */
        private void reduce() {
            for (int twos = 0; twos < 63 && below > 1 && above % 2 == 0; twos++) {
                above /= 2;
                below /= 2;
            }
        }
    }

    private static final class Lots {
        int seed;

        int draw(int m) {
            seed = 1103515245 * seed + 12345;
            return m > 0 ? (seed >>> 16) % m : 0;
        }
    }

    private static final class Sheet {
        final int[] items = new int[MOST_ITEMS];
        boolean isLost = true;
        int form;
        int size;

        void renew(int newForm, int n) {
            isLost = false;
            form = newForm;
            size = Math.max(0, Math.min(n, MOST_ITEMS));
            for (int i = 0; i < MOST_ITEMS; i++) {
                items[i] = 0;
            }
        }

        boolean hasItems(int from, int n) {
            return from >= 0 && n >= 0 && n <= size && from <= size - n;
        }

        int item(int i) {
            return i >= 0 && i < size ? items[i] : 0;
        }

        void put(int i, int v) {
            if (i >= 0 && i < size) {
                items[i] = form == 0 ? (byte) v : form == 1 ? (short) v : v;
            }
        }
    }
}
