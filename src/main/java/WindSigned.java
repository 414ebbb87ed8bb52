import java.util.Arrays;

/** Things on a plain that winds move from day to day, and the houses that have them. */
public final class WindSigned {
    public static final int NONE = -1;

    private static final int UNKNOWN = -2;
    private static final int NEGATIVE_LENGTH = -3;
    private static final int FAULTY = -4;
    private static final int REFUSED = -5;
    private static final int NOTHING = -6;
    private static final int BEYOND = -7;
    private static final int OTHER_WIDTH = -8;
    private static final int NO_AMOUNT = -1000;

    private static final int MOST_DAYS = 14;
    private static final int MOST_HOUSES = 6;
    private static final int MOST_SHELTERS = 8;
    private static final int MOST_THINGS = 6;
    private static final int MOST_WINDS = 9;
    private static final int MOST_ACTS = 30;
    private static final int MOST_WEIGHT = 30;
    private static final int MOST_FORCE = 40;
    private static final int DIRECTIONS = 4;
    private static final int LAWS = 4;
    private static final int IMAGES = 3;
    private static final int CELL_NUMBERS = 100;

    private final Tape tape;
    private final Teller teller;
    private final Plain plain;
    private final Calendar calendar;
    private final Setting told;
    private final Walk[] walks;
    private final Slots slots;
    private final Trials trials;
    private final Guesses guesses;
    private final Plain[] images;
    private final boolean[] imageKept;
    private int latestFault;
    private int latestFaultPlace;

    public WindSigned() {
        tape = new Tape();
        teller = new Teller(tape);
        plain = new Plain();
        calendar = new Calendar();
        told = new Setting(plain);
        walks = new Walk[MOST_THINGS];
        for (int thing = 0; thing < MOST_THINGS; thing++) {
            walks[thing] = new Walk(plain, calendar, told);
        }
        slots = new Slots();
        trials = new Trials(plain, calendar);
        guesses = new Guesses(plain, slots, trials);
        images = new Plain[IMAGES];
        imageKept = new boolean[IMAGES];
        for (int k = 0; k < IMAGES; k++) {
            images[k] = new Plain();
        }
        latestFault = 0;
        latestFaultPlace = NONE;
    }

    // The tape, and the plain told by it.

    public int feed(int a, int b, int c, int d, int e) {
        if (tape.length + 20 > Tape.MOST_BYTES) {
            return NONE;
        }
        tape.append(a);
        tape.append(b);
        tape.append(c);
        tape.append(d);
        tape.append(e);
        return tape.length;
    }

    public int end(int n) {
        if (n < 0 || n > tape.length) {
            return NONE;
        }
        tape.length = n;
        return n;
    }

    public int plain() {
        teller.tell();
        latestFault = teller.tokens.faultKind;
        latestFaultPlace = teller.tokens.faultPlace;
        if (latestFault != 0) {
            return FAULTY;
        }
        plain.copyFrom(teller.draft);
        tape.length = 0;
        settle();
        return plain.lines;
    }

    public int fault(int what) {
        switch (what) {
            case 0:
                return latestFault;
            case 1:
                return latestFaultPlace;
            default:
                return NONE;
        }
    }

    public int house(int house) {
        return isHouse(house) ? plain.houseCells[house] : UNKNOWN;
    }

    public int shelter(int shelter) {
        return isShelter(shelter) ? plain.shelterCells[shelter] : UNKNOWN;
    }

    public int thing(int thing, int what) {
        if (!isThing(thing)) {
            return UNKNOWN;
        }
        switch (what) {
            case 0:
                return plain.thingWeights[thing];
            case 1:
                return plain.thingCells[thing];
            case 2:
                return plain.thingHouses[thing];
            default:
                return UNKNOWN;
        }
    }

    public int wind(int wind, int what) {
        if (!isWind(wind)) {
            return UNKNOWN;
        }
        switch (what) {
            case 0:
                return plain.windDirections[wind];
            case 1:
                return plain.windForces[wind];
            case 2:
                return plain.windDays[wind];
            default:
                return UNKNOWN;
        }
    }

    // Where things lie, and how they came there.

    public int at(int thing, int day) {
        return isThing(thing) && isDay(day) ? placeOf(thing, day) : UNKNOWN;
    }

    public int here(int cell, int day) {
        return isDay(day) && plain.hasCell(cell) ? thingsIn(cell, day) : UNKNOWN;
    }

    public int moved(int day) {
        return isEarlyDay(day) ? thingsMoved(day) : UNKNOWN;
    }

    public int steps(int thing, int day) {
        return isThing(thing) && isEarlyDay(day) ? walks[thing].daySteps[day] : UNKNOWN;
    }

    public int worn(int thing) {
        return isThing(thing) ? walks[thing].allSteps() : UNKNOWN;
    }

    public int received(int thing) {
        return isThing(thing) ? walks[thing].receivedDay : UNKNOWN;
    }

    public int signed(int day) {
        if (!isDay(day)) {
            return UNKNOWN;
        }
        int bits = 0;
        for (int thing = 0; thing < plain.things; thing++) {
            int first = walks[thing].receivedDay;
            if (first != NONE && first < day) {
                bits |= 1 << thing;
            }
        }
        return bits;
    }

    public int waits(int thing) {
        return isThing(thing) ? daysInCellTold(thing) : UNKNOWN;
    }

    public int heir() {
        if (!plain.isTold()) {
            return UNKNOWN;
        }
        int best = NONE;
        int longest = 0;
        for (int thing = 0; thing < plain.things; thing++) {
            int days = daysInCellTold(thing);
            if (best == NONE || days > longest) {
                best = thing;
                longest = days;
            }
        }
        return best;
    }

    public int gone(int day) {
        return isDay(day) ? thingsIn(NONE, day) : UNKNOWN;
    }

    // Who has them.

    public int had(int thing, int day) {
        return isThing(thing) && isDay(day) ? houseThatHas(thing, day) : UNKNOWN;
    }

    public int has(int house, int day) {
        return isHouse(house) && isDay(day) ? thingsOf(house, day) : UNKNOWN;
    }

    public int right(int day) {
        if (!isDay(day)) {
            return UNKNOWN;
        }
        int bits = 0;
        for (int thing = 0; thing < plain.things; thing++) {
            if (isRight(thing, day)) {
                bits |= 1 << thing;
            }
        }
        return bits;
    }

    public int rich(int day) {
        if (!isDay(day)) {
            return UNKNOWN;
        }
        int best = NONE;
        int most = 0;
        for (int house = 0; house < plain.houses; house++) {
            int things = Integer.bitCount(thingsOf(house, day));
            if (best == NONE || things > most) {
                best = house;
                most = things;
            }
        }
        return best;
    }

    public int home(int thing) {
        if (!isThing(thing)) {
            return UNKNOWN;
        }
        for (int day = 0; day <= plain.days; day++) {
            if (isRight(thing, day)) {
                return day;
            }
        }
        return NONE;
    }

    // How far things come, and what lies together.

    public int far(int thing) {
        if (!isThing(thing)) {
            return UNKNOWN;
        }
        int most = 0;
        for (int day = 0; day <= plain.days; day++) {
            int cell = placeOf(thing, day);
            if (cell != NONE) {
                most = Math.max(most, distance(cell, plain.thingCells[thing]));
            }
        }
        return most;
    }

    public int apart(int thing, int other, int day) {
        if (!isThing(thing) || !isThing(other) || !isDay(day)) {
            return UNKNOWN;
        }
        int cell = placeOf(thing, day);
        int otherCell = placeOf(other, day);
        return cell == NONE || otherCell == NONE ? NONE : distance(cell, otherCell);
    }

    public int meet(int thing, int other) {
        if (!isThing(thing) || !isThing(other)) {
            return UNKNOWN;
        }
        for (int day = 0; day <= plain.days; day++) {
            int cell = placeOf(thing, day);
            if (cell != NONE && cell == placeOf(other, day)) {
                return day;
            }
        }
        return NONE;
    }

    public int heap(int day) {
        if (!isDay(day)) {
            return UNKNOWN;
        }
        int most = 0;
        for (int thing = 0; thing < plain.things; thing++) {
            int cell = placeOf(thing, day);
            if (cell != NONE) {
                most = Math.max(most, Integer.bitCount(thingsIn(cell, day)));
            }
        }
        return most;
    }

    public int under(int day) {
        if (!isDay(day)) {
            return UNKNOWN;
        }
        int bits = 0;
        for (int thing = 0; thing < plain.things; thing++) {
            if (told.hasShelter(placeOf(thing, day))) {
                bits |= 1 << thing;
            }
        }
        return bits;
    }

    public int edge(int day) {
        if (!isDay(day)) {
            return UNKNOWN;
        }
        int bits = 0;
        for (int thing = 0; thing < plain.things; thing++) {
            if (plain.isAtEdge(placeOf(thing, day))) {
                bits |= 1 << thing;
            }
        }
        return bits;
    }

    public int mostly(int thing) {
        if (!isThing(thing)) {
            return UNKNOWN;
        }
        int best = NONE;
        int most = 0;
        for (int house = 0; house < plain.houses; house++) {
            int days = daysHadBy(thing, house);
            if (days > most) {
                best = house;
                most = days;
            }
        }
        return best;
    }

    public int lee(int thing, int day) {
        if (!isThing(thing) || !isDay(day)) {
            return UNKNOWN;
        }
        int cell = placeOf(thing, day);
        int bits = 0;
        for (int direction = 0; direction < DIRECTIONS; direction++) {
            int windward = Setting.opposite(direction);
            if (cell != NONE && told.hasShelter(plain.cellBeside(cell, windward))) {
                bits |= 1 << direction;
            }
        }
        return bits;
    }

    // Winds and lulls.

    public int lulls() {
        return plain.isTold() ? stillDays() : UNKNOWN;
    }

    public int lull() {
        if (!plain.isTold()) {
            return UNKNOWN;
        }
        int still = stillDays();
        int longest = 0;
        int length = 0;
        for (int day = 0; day < plain.days; day++) {
            length = hasBit(still, day) ? length + 1 : 0;
            longest = Math.max(longest, length);
        }
        return longest;
    }

    public int force(int day) {
        if (!isEarlyDay(day)) {
            return UNKNOWN;
        }
        int greatest = 0;
        for (int i = calendar.windStarts[day]; i < calendar.windStarts[day + 1]; i++) {
            greatest = Math.max(greatest, calendar.forces[i]);
        }
        return greatest;
    }

    public int gale() {
        if (!plain.isTold()) {
            return UNKNOWN;
        }
        int best = NONE;
        int most = 0;
        for (int day = 0; day < plain.days; day++) {
            int things = Integer.bitCount(thingsMoved(day));
            if (things > most) {
                best = day;
                most = things;
            }
        }
        return best;
    }

    public int movers(int thing) {
        return isThing(thing) ? walks[thing].windsThatMove : UNKNOWN;
    }

    public int moves(int wind) {
        return isWind(wind) ? thingsMovedBy(wind) : UNKNOWN;
    }

    public int idle() {
        if (!plain.isTold()) {
            return UNKNOWN;
        }
        int bits = 0;
        for (int wind = 0; wind < plain.winds; wind++) {
            if (thingsMovedBy(wind) == 0) {
                bits |= 1 << wind;
            }
        }
        return bits;
    }

    public int strewn() {
        if (!plain.isTold()) {
            return UNKNOWN;
        }
        int cells = 0;
        for (int cell = 0; cell < CELL_NUMBERS; cell++) {
            if (plain.hasCell(cell) && isEverLainIn(cell)) {
                cells++;
            }
        }
        return cells;
    }

    // What would be otherwise.

    public int keep(int thing) {
        if (!isThing(thing)) {
            return UNKNOWN;
        }
        int set = trials.keepingSet(thing);
        return set == NONE ? NONE : Integer.bitCount(set);
    }

    public int keeps(int thing) {
        return isThing(thing) ? trials.keepingSet(thing) : UNKNOWN;
    }

    public int blow(int thing, int house, int day, int direction) {
        if (!isThing(thing) || !isHouse(house) || !isEarlyDay(day) || !isDirection(direction)) {
            return UNKNOWN;
        }
        return trials.leastForce(thing, house, day, direction, MOST_FORCE);
    }

    public int bring(int thing, int house) {
        return isThing(thing) && isHouse(house) ? trials.easiestBlow(thing, house) : UNKNOWN;
    }

    public int blame() {
        return plain.isTold() ? trials.windToBlame() : UNKNOWN;
    }

    public int burden() {
        return plain.isTold() ? trials.shelterInTheWay() : UNKNOWN;
    }

    // What a thing weighs by what was seen, and by which law.

    public int weights(int slot, int thing) {
        int refusal = guesses.tryWeights(slot, thing);
        return refusal != 0 ? refusal : guesses.countFitting();
    }

    public int least(int slot, int thing) {
        int refusal = guesses.tryWeights(slot, thing);
        return refusal != 0 ? refusal : guesses.leastFitting();
    }

    public int greatest(int slot, int thing) {
        int refusal = guesses.tryWeights(slot, thing);
        return refusal != 0 ? refusal : guesses.greatestFitting();
    }

    public int ask(int slot, int thing) {
        int refusal = guesses.tryWeights(slot, thing);
        if (refusal != 0) {
            return refusal;
        }
        guesses.chooseDay();
        return guesses.chosenDay;
    }

    public int leaves(int slot, int thing) {
        int refusal = guesses.tryWeights(slot, thing);
        if (refusal != 0) {
            return refusal;
        }
        guesses.chooseDay();
        return guesses.leftAtWorst;
    }

    public int laws(int slot, int thing) {
        int refusal = guesses.refusalOf(slot, thing);
        return refusal != 0 ? refusal : guesses.fittingLaws(slot, thing);
    }

    public int by(int law) {
        return plain.isTold() && law >= 0 && law < LAWS ? trials.rightByLaw(law) : UNKNOWN;
    }

    public int law() {
        return plain.isTold() ? trials.lawOfFewestSteps() : UNKNOWN;
    }

    // Shares of shelters, and houses that build.

    public int worth(int set) {
        if (!plain.isTold() || set < 0 || set >= 1 << plain.shelters) {
            return UNKNOWN;
        }
        return trials.worthOf(set);
    }

    public int share(int shelter, int what) {
        return isShelter(shelter) && isPart(what) ? trials.shareOf(shelter, what) : NO_AMOUNT;
    }

    public int rests(int house, int other) {
        return isPair(house, other) ? trials.pairsAtRest(house, other) : UNKNOWN;
    }

    public int gets(int house, int other, int x, int y) {
        if (!isPair(house, other) || !isPart(x) || !isPart(y)) {
            return NO_AMOUNT;
        }
        return trials.gainOf(house, other, x, y);
    }

    // Winds by chance.

    public long chance(int thing, int what) {
        return isThing(thing) && isPart(what) ? trials.chanceOfReceipt(thing, what) : UNKNOWN;
    }

    public long mean(int thing, int what) {
        return isThing(thing) && isPart(what) ? trials.meanOfSteps(thing, what) : UNKNOWN;
    }

    // Acts.

    public int blows(int direction, int force, int day) {
        if (!isDirection(direction) || force < 1 || force > MOST_FORCE || !isEarlyDay(day)) {
            return UNKNOWN;
        }
        if (!plain.acts.add(Acts.WIND, direction, force, day)) {
            return REFUSED;
        }
        settle();
        return thingsMoved(day);
    }

    public int brings(int thing, int cell, int day) {
        if (!isThing(thing) || !plain.hasCell(cell) || !isEarlyDay(day)) {
            return UNKNOWN;
        }
        if (!plain.acts.add(Acts.RETURN, thing, cell, day)) {
            return REFUSED;
        }
        settle();
        return placeOf(thing, plain.days);
    }

    public int undo() {
        if (!plain.isTold()) {
            return UNKNOWN;
        }
        if (plain.acts.size <= 0) {
            return REFUSED;
        }
        plain.acts.size--;
        settle();
        return plain.acts.size;
    }

    public int anew() {
        if (!plain.isTold()) {
            return UNKNOWN;
        }
        int before = plain.acts.size;
        plain.acts.size = 0;
        settle();
        return before;
    }

    // Years drawn.

    public int drawn(int seed, int what) {
        if (!plain.isTold() || !isSeed(seed) || !isPart(what)) {
            return UNKNOWN;
        }
        int winds = trials.windsDrawn(seed);
        return what == 0 ? winds : trials.thingsReceivedBy(winds);
    }

    public int luck(int seed, int n, int thing) {
        if (!isSeed(seed) || n < 1 || n > 20 || !isThing(thing)) {
            return UNKNOWN;
        }
        int years = 0;
        for (int i = 0; i < n; i++) {
            if (trials.isReceivedBy(trials.windsDrawn(seed + i), thing)) {
                years++;
            }
        }
        return years;
    }

    public int rate(int thing, int n) {
        if (!isThing(thing) || n < 0 || n > MOST_WEIGHT) {
            return UNKNOWN;
        }
        if (plain.acts.size > 0) {
            return REFUSED;
        }
        int before = plain.thingWeights[thing];
        plain.thingWeights[thing] = n;
        settle();
        return before;
    }

    public int count(int what) {
        switch (what) {
            case 0:
                return plain.days;
            case 1:
                return plain.lawTold;
            case 2:
                return plain.odds;
            case 3:
                return plain.wide;
            case 4:
                return plain.high;
            case 5:
                return plain.houses;
            case 6:
                return plain.shelters;
            case 7:
                return plain.things;
            case 8:
                return plain.winds;
            case 9:
                return plain.acts.size;
            case 10:
                return plain.lines;
            case 11:
                return tape.length;
            case 12:
                return slots.rowsHeld();
            default:
                return NONE;
        }
    }

    // Images.

    public int image(int k) {
        if (!isImage(k)) {
            return UNKNOWN;
        }
        images[k].copyFrom(plain);
        imageKept[k] = true;
        return 0;
    }

    public int back(int k) {
        if (!isImage(k)) {
            return UNKNOWN;
        }
        if (!imageKept[k]) {
            return NOTHING;
        }
        plain.copyFrom(images[k]);
        settle();
        return 0;
    }

    // Slots.

    public int row(int slot, int width, int n) {
        if (!slots.isSlot(slot) || width < 0 || width >= Slots.WIDTHS || n > Slots.MOST_NUMBERS) {
            return UNKNOWN;
        }
        if (n < 0) {
            return NEGATIVE_LENGTH;
        }
        slots.lay(slot, width, n);
        return 0;
    }

    public int write(int slot, int i, long v) {
        if (!slots.isSlot(slot)) {
            return UNKNOWN;
        }
        if (!slots.hasRow(slot)) {
            return NOTHING;
        }
        if (i < 0 || i >= slots.lengths[slot]) {
            return BEYOND;
        }
        slots.put(slot, i, v);
        return 0;
    }

    public int paste(int slot, int i, int to, int k, int n) {
        if (!slots.isSlot(slot) || !slots.isSlot(to)) {
            return UNKNOWN;
        }
        if (!slots.hasRow(slot) || !slots.hasRow(to)) {
            return NOTHING;
        }
        if (slots.widths[slot] != slots.widths[to]) {
            return OTHER_WIDTH;
        }
        if (!slots.hasRange(slot, i, n) || !slots.hasRange(to, k, n)) {
            return BEYOND;
        }
        System.arraycopy(slots.rows[slot], i, slots.rows[to], k, n);
        return 0;
    }

    // What there is.

    private boolean isHouse(int house) {
        return house >= 0 && house < plain.houses;
    }

    private boolean isShelter(int shelter) {
        return shelter >= 0 && shelter < plain.shelters;
    }

    private boolean isThing(int thing) {
        return thing >= 0 && thing < plain.things;
    }

    private boolean isWind(int wind) {
        return wind >= 0 && wind < plain.winds;
    }

    private boolean isDay(int day) {
        return plain.isTold() && day >= 0 && day <= plain.days;
    }

    private boolean isEarlyDay(int day) {
        return plain.isTold() && day >= 0 && day < plain.days;
    }

    private boolean isPair(int house, int other) {
        return isHouse(house) && isHouse(other) && house != other;
    }

    private static boolean isDirection(int direction) {
        return direction >= 0 && direction < DIRECTIONS;
    }

    private static boolean isPart(int what) {
        return what == 0 || what == 1;
    }

    private static boolean isSeed(int seed) {
        return seed >= 0 && seed <= 2000000000;
    }

    private static boolean isImage(int k) {
        return k >= 0 && k < IMAGES;
    }

    private static boolean hasBit(int bits, int n) {
        return (bits >> n & 1) != 0;
    }

    private static int distance(int cell, int other) {
        return Math.abs(cell / 10 - other / 10) + Math.abs(cell % 10 - other % 10);
    }

    // What the walks say; settle() is due behind every change of the plain or its acts.

    private void settle() {
        calendar.arrange(plain);
        told.beAsTold();
        for (int thing = 0; thing < plain.things; thing++) {
            walks[thing].go(thing, plain.thingWeights[thing]);
        }
    }

    private int placeOf(int thing, int day) {
        return walks[thing].places[day];
    }

    private int thingsIn(int cell, int day) {
        int bits = 0;
        for (int thing = 0; thing < plain.things; thing++) {
            if (placeOf(thing, day) == cell) {
                bits |= 1 << thing;
            }
        }
        return bits;
    }

    private int thingsMoved(int day) {
        int bits = 0;
        for (int thing = 0; thing < plain.things; thing++) {
            if (walks[thing].daySteps[day] > 0) {
                bits |= 1 << thing;
            }
        }
        return bits;
    }

    private int thingsMovedBy(int wind) {
        int bits = 0;
        for (int thing = 0; thing < plain.things; thing++) {
            if (hasBit(walks[thing].windsThatMove, wind)) {
                bits |= 1 << thing;
            }
        }
        return bits;
    }

    private int daysInCellTold(int thing) {
        int days = 0;
        for (int day = 0; day <= plain.days; day++) {
            if (placeOf(thing, day) == plain.thingCells[thing]) {
                days++;
            }
        }
        return days;
    }

    private int houseThatHas(int thing, int day) {
        return plain.nearestHouse(placeOf(thing, day));
    }

    private int thingsOf(int house, int day) {
        int bits = 0;
        for (int thing = 0; thing < plain.things; thing++) {
            if (houseThatHas(thing, day) == house) {
                bits |= 1 << thing;
            }
        }
        return bits;
    }

    private boolean isRight(int thing, int day) {
        return houseThatHas(thing, day) == plain.thingHouses[thing];
    }

    private int daysHadBy(int thing, int house) {
        int days = 0;
        for (int day = 0; day <= plain.days; day++) {
            if (houseThatHas(thing, day) == house) {
                days++;
            }
        }
        return days;
    }

    private int stillDays() {
        int bits = 0;
        for (int day = 0; day < plain.days; day++) {
            if (calendar.windStarts[day] == calendar.windStarts[day + 1]) {
                bits |= 1 << day;
            }
        }
        return bits;
    }

    private boolean isEverLainIn(int cell) {
        for (int day = 0; day <= plain.days; day++) {
            if (thingsIn(cell, day) != 0) {
                return true;
            }
        }
        return false;
    }

    /** The bytes that are fed. */
    private static final class Tape {
        static final int MOST_BYTES = 700;

        final byte[] bytes;
        int length;

        Tape() {
            bytes = new byte[MOST_BYTES];
            length = 0;
        }

        void append(int number) {
            if (length + 4 > MOST_BYTES) {
                return;
            }
            bytes[length] = (byte) (number >> 24);
            bytes[length + 1] = (byte) (number >> 16);
            bytes[length + 2] = (byte) (number >> 8);
            bytes[length + 3] = (byte) number;
            length += 4;
        }
    }

    /** The tape token by token. Behind the first fault nothing is taken any more, so it stays the one told. */
    private static final class Tokens {
        private static final int END = 0;
        private static final int WORD = 1;
        private static final int NUMBER = 2;
        private static final int SIGN = 3;
        private static final int BLANK = 4;
        private static final int STRANGE = 5;
        // Above every bound of the document, so that long numbers stay out of bounds.
        private static final int HUGE = 1000000;

        private final Tape tape;
        private int kind;
        private int stop;
        private int value;
        int start;
        int faultKind;
        int faultPlace;

        Tokens(Tape tape) {
            this.tape = tape;
        }

        void open() {
            faultKind = 0;
            faultPlace = NONE;
            stop = 0;
            advance();
        }

        boolean isSound() {
            return faultKind == 0;
        }

        boolean isOver() {
            return kind == END;
        }

        void fail(int what, int place) {
            if (faultKind == 0) {
                faultKind = what;
                faultPlace = place;
            }
        }

        boolean isWord(String word) {
            if (kind != WORD || stop - start != word.length()) {
                return false;
            }
            for (int i = 0; i < word.length(); i++) {
                if (tape.bytes[start + i] != word.charAt(i)) {
                    return false;
                }
            }
            return true;
        }

        void takeWord(String word) {
            if (!isWord(word)) {
                fail(1, start);
            }
            advance();
        }

        void takeSign() {
            if (kind != SIGN) {
                fail(1, start);
            }
            advance();
        }

        int takeNumber(int lowest, int highest) {
            int number = value;
            if (kind != NUMBER) {
                fail(1, start);
            } else if (number < lowest || number > highest) {
                fail(2, start);
            }
            advance();
            return isSound() ? number : 0;
        }

        private void advance() {
            if (faultKind != 0) {
                return;
            }
            start = stop;
            while (start < tape.length && kindAt(start) == BLANK) {
                start++;
            }
            stop = start;
            value = 0;
            kind = kindAt(start);
            boolean isRun = kind == WORD || kind == NUMBER;
            while (stop < tape.length && (stop == start || isRun && kindAt(stop) == kind)) {
                if (kind == NUMBER) {
                    value = Math.min(HUGE, value * 10 + (tape.bytes[stop] - '0'));
                }
                stop++;
            }
        }

        private int kindAt(int place) {
            if (place >= tape.length) {
                return END;
            }
            byte b = tape.bytes[place];
            if (b >= 'a' && b <= 'z') {
                return WORD;
            }
            if (b >= '0' && b <= '9') {
                return NUMBER;
            }
            if (b == 32 || b == 10) {
                return BLANK;
            }
            return b == ';' ? SIGN : STRANGE;
        }
    }

    /** Reads a tape into a draft of a plain. */
    private static final class Teller {
        final Tokens tokens;
        final Plain draft;

        Teller(Tape tape) {
            tokens = new Tokens(tape);
            draft = new Plain();
        }

        void tell() {
            draft.clear();
            tokens.open();
            // A line takes a byte at the least.
            for (int i = 0; i < Tape.MOST_BYTES && tokens.isSound() && !tokens.isOver(); i++) {
                if (draft.lines == 0) {
                    readPlain();
                } else if (tokens.isWord("house")) {
                    readHouse();
                } else if (tokens.isWord("shelter")) {
                    readShelter();
                } else if (tokens.isWord("thing")) {
                    readThing();
                } else if (tokens.isWord("wind")) {
                    readWind();
                } else {
                    tokens.fail(1, tokens.start);
                }
                tokens.takeSign();
                draft.lines++;
            }
        }

        private void readPlain() {
            tokens.takeWord("plain");
            tokens.takeWord("days");
            draft.days = tokens.takeNumber(1, MOST_DAYS);
            tokens.takeWord("law");
            draft.lawTold = tokens.takeNumber(0, LAWS - 1);
            tokens.takeWord("odds");
            draft.odds = tokens.takeNumber(0, 10);
            tokens.takeWord("wide");
            draft.wide = tokens.takeNumber(2, 9);
            tokens.takeWord("high");
            draft.high = tokens.takeNumber(2, 9);
        }

        private void readHouse() {
            if (draft.houses >= MOST_HOUSES) {
                tokens.fail(3, tokens.start);
                return;
            }
            tokens.takeWord("house");
            draft.houseCells[draft.houses] = readFreeCell(draft.houseCells, draft.houses);
            draft.houses++;
        }

        private void readShelter() {
            if (draft.shelters >= MOST_SHELTERS) {
                tokens.fail(3, tokens.start);
                return;
            }
            tokens.takeWord("shelter");
            draft.shelterCells[draft.shelters] = readFreeCell(draft.shelterCells, draft.shelters);
            draft.shelters++;
        }

        private void readThing() {
            int thing = draft.things;
            if (thing >= MOST_THINGS) {
                tokens.fail(3, tokens.start);
                return;
            }
            tokens.takeWord("thing");
            tokens.takeWord("weighs");
            draft.thingWeights[thing] = tokens.takeNumber(0, MOST_WEIGHT);
            tokens.takeWord("at");
            draft.thingCells[thing] = readFreeCell(draft.thingCells, 0);
            tokens.takeWord("for");
            draft.thingHouses[thing] = tokens.takeNumber(0, draft.houses - 1);
            draft.things++;
        }

        private void readWind() {
            int wind = draft.winds;
            if (wind >= MOST_WINDS) {
                tokens.fail(3, tokens.start);
                return;
            }
            tokens.takeWord("wind");
            draft.windDirections[wind] = tokens.takeNumber(0, DIRECTIONS - 1);
            draft.windForces[wind] = tokens.takeNumber(1, MOST_FORCE);
            tokens.takeWord("at");
            draft.windDays[wind] = tokens.takeNumber(0, MOST_DAYS - 1);
            draft.winds++;
        }

        private int readFreeCell(int[] taken, int n) {
            int x = tokens.takeNumber(0, draft.wide - 1);
            int place = tokens.start;
            int y = tokens.takeNumber(0, draft.high - 1);
            int cell = 10 * x + y;
            for (int i = 0; i < n; i++) {
                if (taken[i] == cell) {
                    tokens.fail(2, place);
                }
            }
            return cell;
        }
    }

    /** What was told, and the acts since. Without lines there is no plain. */
    private static final class Plain {
        int lines;
        int days;
        int lawTold;
        int odds;
        int wide;
        int high;
        int houses;
        int shelters;
        int things;
        int winds;
        final int[] houseCells;
        final int[] shelterCells;
        final int[] thingWeights;
        final int[] thingCells;
        final int[] thingHouses;
        final int[] windDirections;
        final int[] windForces;
        final int[] windDays;
        final Acts acts;

        Plain() {
            houseCells = new int[MOST_HOUSES];
            shelterCells = new int[MOST_SHELTERS];
            thingWeights = new int[MOST_THINGS];
            thingCells = new int[MOST_THINGS];
            thingHouses = new int[MOST_THINGS];
            windDirections = new int[MOST_WINDS];
            windForces = new int[MOST_WINDS];
            windDays = new int[MOST_WINDS];
            acts = new Acts();
        }

        void clear() {
            lines = 0;
            days = 0;
            lawTold = 0;
            odds = 0;
            wide = 0;
            high = 0;
            houses = 0;
            shelters = 0;
            things = 0;
            winds = 0;
            acts.size = 0;
        }

        void copyFrom(Plain other) {
            lines = other.lines;
            days = other.days;
            lawTold = other.lawTold;
            odds = other.odds;
            wide = other.wide;
            high = other.high;
            houses = other.houses;
            shelters = other.shelters;
            things = other.things;
            winds = other.winds;
            System.arraycopy(other.houseCells, 0, houseCells, 0, MOST_HOUSES);
            System.arraycopy(other.shelterCells, 0, shelterCells, 0, MOST_SHELTERS);
            System.arraycopy(other.thingWeights, 0, thingWeights, 0, MOST_THINGS);
            System.arraycopy(other.thingCells, 0, thingCells, 0, MOST_THINGS);
            System.arraycopy(other.thingHouses, 0, thingHouses, 0, MOST_THINGS);
            System.arraycopy(other.windDirections, 0, windDirections, 0, MOST_WINDS);
            System.arraycopy(other.windForces, 0, windForces, 0, MOST_WINDS);
            System.arraycopy(other.windDays, 0, windDays, 0, MOST_WINDS);
            acts.copyFrom(other.acts);
        }

        boolean isTold() {
            return lines > 0;
        }

        boolean hasCell(int cell) {
            return cell >= 0 && cell / 10 < wide && cell % 10 < high;
        }

        boolean isAtEdge(int cell) {
            for (int direction = 0; direction < DIRECTIONS; direction++) {
                if (cell != NONE && cellBeside(cell, direction) == NONE) {
                    return true;
                }
            }
            return false;
        }

        int cellBeside(int cell, int direction) {
            int x = cell / 10;
            int y = cell % 10;
            switch (direction) {
                case 0:
                    return y > 0 ? cell - 1 : NONE;
                case 1:
                    return x < wide - 1 ? cell + 10 : NONE;
                case 2:
                    return y < high - 1 ? cell + 1 : NONE;
                default:
                    return x > 0 ? cell - 10 : NONE;
            }
        }

        int cellAtOtherEdge(int cell, int direction) {
            int x = cell / 10;
            int y = cell % 10;
            switch (direction) {
                case 0:
                    return 10 * x + high - 1;
                case 1:
                    return y;
                case 2:
                    return 10 * x;
                default:
                    return 10 * (wide - 1) + y;
            }
        }

        int nearestHouse(int cell) {
            int best = NONE;
            int nearest = 0;
            for (int house = 0; house < houses && cell != NONE; house++) {
                int way = distance(cell, houseCells[house]);
                if (best == NONE || way < nearest) {
                    best = house;
                    nearest = way;
                }
            }
            return best;
        }
    }

    /** Winds more (a direction, a force) and things brought back (a thing, a cell), in the order of the calls. */
    private static final class Acts {
        static final int WIND = 0;
        static final int RETURN = 1;

        int size;
        final int[] kinds;
        final int[] firsts;
        final int[] seconds;
        final int[] actDays;

        Acts() {
            kinds = new int[MOST_ACTS];
            firsts = new int[MOST_ACTS];
            seconds = new int[MOST_ACTS];
            actDays = new int[MOST_ACTS];
        }

        boolean add(int kind, int first, int second, int day) {
            if (size >= MOST_ACTS) {
                return false;
            }
            kinds[size] = kind;
            firsts[size] = first;
            seconds[size] = second;
            actDays[size] = day;
            size++;
            return true;
        }

        void copyFrom(Acts other) {
            size = other.size;
            System.arraycopy(other.kinds, 0, kinds, 0, MOST_ACTS);
            System.arraycopy(other.firsts, 0, firsts, 0, MOST_ACTS);
            System.arraycopy(other.seconds, 0, seconds, 0, MOST_ACTS);
            System.arraycopy(other.actDays, 0, actDays, 0, MOST_ACTS);
        }
    }

    /** Winds and things brought back in the order in which they come, day by day; starts[day + 1] ends a day. */
    private static final class Calendar {
        final int[] directions;
        final int[] forces;
        final int[] numbersTold;
        final int[] windStarts;
        final int[] thingsReturned;
        final int[] cellsReturned;
        final int[] returnStarts;
        private int winds;
        private int returns;

        Calendar() {
            directions = new int[MOST_WINDS + MOST_ACTS];
            forces = new int[MOST_WINDS + MOST_ACTS];
            numbersTold = new int[MOST_WINDS + MOST_ACTS];
            windStarts = new int[MOST_DAYS + 1];
            thingsReturned = new int[MOST_ACTS];
            cellsReturned = new int[MOST_ACTS];
            returnStarts = new int[MOST_DAYS + 1];
        }

        void arrange(Plain plain) {
            winds = 0;
            returns = 0;
            for (int day = 0; day < plain.days; day++) {
                addWindsTold(plain, day);
                addActs(plain.acts, day);
                windStarts[day + 1] = winds;
                returnStarts[day + 1] = returns;
            }
        }

        private void addWindsTold(Plain plain, int day) {
            for (int wind = 0; wind < plain.winds; wind++) {
                if (plain.windDays[wind] == day) {
                    addWind(plain.windDirections[wind], plain.windForces[wind], wind);
                }
            }
        }

        private void addActs(Acts acts, int day) {
            for (int i = 0; i < acts.size; i++) {
                if (acts.actDays[i] != day) {
                    continue;
                }
                if (acts.kinds[i] == Acts.WIND) {
                    addWind(acts.firsts[i], acts.seconds[i], NONE);
                } else {
                    thingsReturned[returns] = acts.firsts[i];
                    cellsReturned[returns] = acts.seconds[i];
                    returns++;
                }
            }
        }

        private void addWind(int direction, int force, int number) {
            directions[winds] = direction;
            forces[winds] = force;
            numbersTold[winds] = number;
            winds++;
        }
    }

    /** By what a thing goes its way: as told, or otherwise for a trial. */
    private static final class Setting {
        private final Plain plain;
        private final boolean[] sheltered;
        int lawInForce;
        int windsBlowing;
        int moreDay;
        int moreDirection;
        int moreForce;

        Setting(Plain plain) {
            this.plain = plain;
            sheltered = new boolean[CELL_NUMBERS];
        }

        void beAsTold() {
            lawInForce = plain.lawTold;
            windsBlowing = (1 << plain.winds) - 1;
            moreDay = NONE;
            for (int cell = 0; cell < CELL_NUMBERS; cell++) {
                sheltered[cell] = false;
            }
            for (int shelter = 0; shelter < plain.shelters; shelter++) {
                build(plain.shelterCells[shelter]);
            }
        }

        void build(int cell) {
            if (cell >= 0 && cell < CELL_NUMBERS) {
                sheltered[cell] = true;
            }
        }

        void tearDown(int cell) {
            if (cell >= 0 && cell < CELL_NUMBERS) {
                sheltered[cell] = false;
            }
        }

        boolean hasShelter(int cell) {
            return cell >= 0 && cell < CELL_NUMBERS && sheltered[cell];
        }

        static int opposite(int direction) {
            return direction ^ 2;
        }
    }

    /** The way of one thing through the days. */
    private static final class Walk {
        private static final int LAW_AWAY = 1;
        private static final int LAW_AROUND = 2;
        private static final int LAW_TO_AND_FRO = 3;

        private final Plain plain;
        private final Calendar calendar;
        private final Setting setting;
        private int thing;
        private int weight;
        private int cell;
        final int[] places;
        final int[] daySteps;
        int windsThatMove;
        int receivedDay;

        Walk(Plain plain, Calendar calendar, Setting setting) {
            this.plain = plain;
            this.calendar = calendar;
            this.setting = setting;
            places = new int[MOST_DAYS + 1];
            daySteps = new int[MOST_DAYS];
        }

        void go(int whichThing, int whatItWeighs) {
            begin(whichThing, whatItWeighs);
            for (int day = 0; day < plain.days; day++) {
                passDay(day);
            }
        }

        /** The days ahead of this one stay as they were gone, so a trial of a late day need not begin anew. */
        void goAgainFrom(int firstDay) {
            cell = places[firstDay];
            for (int day = firstDay; day < plain.days; day++) {
                passDay(day);
            }
        }

        boolean isEverReceived(int whichThing) {
            begin(whichThing, plain.thingWeights[whichThing]);
            for (int day = 0; day < plain.days && receivedDay == NONE; day++) {
                passDay(day);
            }
            return receivedDay != NONE;
        }

        int allSteps() {
            int sum = 0;
            for (int day = 0; day < plain.days; day++) {
                sum += daySteps[day];
            }
            return sum;
        }

        private void begin(int whichThing, int whatItWeighs) {
            thing = whichThing;
            weight = whatItWeighs;
            cell = plain.thingCells[whichThing];
            places[0] = cell;
            windsThatMove = 0;
            receivedDay = NONE;
        }

        private void passDay(int day) {
            int sum = 0;
            for (int i = calendar.windStarts[day]; i < calendar.windStarts[day + 1]; i++) {
                int number = calendar.numbersTold[i];
                if (number == NONE) {
                    sum += push(calendar.directions[i], calendar.forces[i]);
                } else if (hasBit(setting.windsBlowing, number)) {
                    int byIt = push(calendar.directions[i], calendar.forces[i]);
                    windsThatMove |= byIt > 0 ? 1 << number : 0;
                    sum += byIt;
                }
            }
            if (setting.moreDay == day) {
                sum += push(setting.moreDirection, setting.moreForce);
            }
            for (int i = calendar.returnStarts[day]; i < calendar.returnStarts[day + 1]; i++) {
                if (calendar.thingsReturned[i] == thing) {
                    cell = calendar.cellsReturned[i];
                }
            }
            if (sum > 0 && receivedDay == NONE) {
                receivedDay = day;
            }
            daySteps[day] = sum;
            places[day + 1] = cell;
        }

        /** How many steps the thing goes by a wind. */
        private int push(int direction, int force) {
            int reach = reachOf(force, weight);
            if (cell == NONE || reach == 0) {
                return 0;
            }
            if (setting.hasShelter(plain.cellBeside(cell, Setting.opposite(direction)))) {
                return 0;
            }
            int heading = direction;
            for (int gone = 0; gone < reach; gone++) {
                int next = plain.cellBeside(cell, heading);
                if (next == NONE && setting.lawInForce == LAW_AWAY) {
                    cell = NONE;
                    return gone + 1;
                }
                if (next == NONE && setting.lawInForce == LAW_AROUND) {
                    next = plain.cellAtOtherEdge(cell, heading);
                }
                if (next == NONE && setting.lawInForce == LAW_TO_AND_FRO) {
                    heading = Setting.opposite(heading);
                    next = plain.cellBeside(cell, heading);
                }
                if (next == NONE || setting.hasShelter(next)) {
                    return gone;
                }
                cell = next;
            }
            return reach;
        }

        static int reachOf(int force, int weight) {
            return force > weight ? 1 + (force - weight) / 3 : 0;
        }
    }

    /** What would be, if something were otherwise than told. Each trial begins with the setting as told. */
    private static final class Trials {
        private static final long DRAW_FACTOR = 1103515245L;
        private static final long DRAW_MORE = 12345L;
        private static final long DRAW_MODULUS = 2147483648L;

        private final Plain plain;
        private final int[] worths;
        final Setting setting;
        final Walk walk;

        Trials(Plain plain, Calendar calendar) {
            this.plain = plain;
            setting = new Setting(plain);
            worths = new int[1 << MOST_SHELTERS];
            walk = new Walk(plain, calendar, setting);
        }

        // Shelters that keep a thing.

        int keepingSet(int thing) {
            int best = NONE;
            for (int set = 0; set < 1 << DIRECTIONS; set++) {
                boolean fewer = best == NONE || Integer.bitCount(set) < Integer.bitCount(best);
                if (fewer && buildBeside(thing, set) && !walk.isEverReceived(thing)) {
                    best = set;
                }
            }
            return best;
        }

        private boolean buildBeside(int thing, int set) {
            setting.beAsTold();
            for (int direction = 0; direction < DIRECTIONS; direction++) {
                int cell = plain.cellBeside(plain.thingCells[thing], direction);
                if (!hasBit(set, direction)) {
                    continue;
                }
                if (cell == NONE || setting.hasShelter(cell)) {
                    return false;
                }
                setting.build(cell);
            }
            return true;
        }

        // A wind more that brings a thing to a house.

        int leastForce(int thing, int house, int day, int direction, int strongest) {
            int weight = plain.thingWeights[thing];
            setting.beAsTold();
            walk.go(thing, weight);
            setting.moreDay = day;
            setting.moreDirection = direction;
            for (int force = 1; force <= strongest; force++) {
                boolean asBefore = Walk.reachOf(force, weight) == Walk.reachOf(force - 1, weight);
                if (asBefore && force > 1) {
                    continue;
                }
                setting.moreForce = force;
                walk.goAgainFrom(day);
                if (plain.nearestHouse(walk.places[plain.days]) == house) {
                    return force;
                }
            }
            return NONE;
        }

        int easiestBlow(int thing, int house) {
            int best = NONE;
            int strongest = MOST_FORCE;
            for (int day = 0; day < plain.days; day++) {
                for (int direction = 0; direction < DIRECTIONS && strongest > 0; direction++) {
                    int force = leastForce(thing, house, day, direction, strongest);
                    if (force != NONE) {
                        best = 10 * day + direction;
                        strongest = force - 1;
                    }
                }
            }
            return best;
        }

        // Things that are right in the last day.

        int windToBlame() {
            setting.beAsTold();
            int most = Integer.bitCount(rightThings());
            int best = NONE;
            for (int wind = 0; wind < plain.winds; wind++) {
                setting.beAsTold();
                setting.windsBlowing &= ~(1 << wind);
                int right = Integer.bitCount(rightThings());
                if (right > most) {
                    most = right;
                    best = wind;
                }
            }
            return best;
        }

        int shelterInTheWay() {
            setting.beAsTold();
            int most = Integer.bitCount(rightThings());
            int best = NONE;
            for (int shelter = 0; shelter < plain.shelters; shelter++) {
                setting.beAsTold();
                setting.tearDown(plain.shelterCells[shelter]);
                int right = Integer.bitCount(rightThings());
                if (right > most) {
                    most = right;
                    best = shelter;
                }
            }
            return best;
        }

        int rightByLaw(int law) {
            setting.beAsTold();
            setting.lawInForce = law;
            return rightThings();
        }

        private int rightThings() {
            int bits = 0;
            for (int thing = 0; thing < plain.things; thing++) {
                walk.go(thing, plain.thingWeights[thing]);
                if (plain.nearestHouse(walk.places[plain.days]) == plain.thingHouses[thing]) {
                    bits |= 1 << thing;
                }
            }
            return bits;
        }

        int lawOfFewestSteps() {
            int best = 0;
            int fewest = stepsByLaw(0);
            for (int law = 1; law < LAWS; law++) {
                int steps = stepsByLaw(law);
                if (steps < fewest) {
                    fewest = steps;
                    best = law;
                }
            }
            return best;
        }

        private int stepsByLaw(int law) {
            setting.beAsTold();
            setting.lawInForce = law;
            int sum = 0;
            for (int thing = 0; thing < plain.things; thing++) {
                walk.go(thing, plain.thingWeights[thing]);
                sum += walk.allSteps();
            }
            return sum;
        }

        // Sets of shelters that stand alone.

        int worthOf(int set) {
            setting.beAsTold();
            for (int shelter = 0; shelter < plain.shelters; shelter++) {
                if (!hasBit(set, shelter)) {
                    setting.tearDown(plain.shelterCells[shelter]);
                }
            }
            int kept = 0;
            for (int thing = 0; thing < plain.things; thing++) {
                if (!walk.isEverReceived(thing)) {
                    kept++;
                }
            }
            return kept;
        }

        int shareOf(int shelter, int what) {
            int sets = 1 << plain.shelters;
            for (int set = 0; set < sets; set++) {
                worths[set] = worthOf(set);
            }
            int above = 0;
            for (int set = 0; set < sets; set++) {
                if (!hasBit(set, shelter)) {
                    above += ordersBehind(set) * (worths[set | 1 << shelter] - worths[set]);
                }
            }
            return (int) partOfFraction(above, factorial(plain.shelters), what);
        }

        /** In how many orders just this set stands ahead of one that is not in it. */
        private int ordersBehind(int set) {
            int ahead = Integer.bitCount(set);
            return factorial(ahead) * factorial(plain.shelters - 1 - ahead);
        }

        private static int factorial(int n) {
            int product = 1;
            for (int i = 2; i <= n; i++) {
                product *= i;
            }
            return product;
        }

        private static long partOfFraction(long above, long below, int what) {
            long divisor = commonDivisor(Math.abs(above), below);
            if (divisor <= 0) {
                return what == 0 ? 0 : 1;
            }
            return what == 0 ? above / divisor : below / divisor;
        }

        private static long commonDivisor(long a, long b) {
            long greater = a;
            long less = b;
            // Euclid's way takes fewer than a hundred turns for longs.
            for (int i = 0; i < 200 && less != 0; i++) {
                long rest = greater % less;
                greater = less;
                less = rest;
            }
            return greater;
        }

        // Two houses that build.

        int gainOf(int house, int other, int builds, int otherBuilds) {
            setting.beAsTold();
            if (builds == 1) {
                setting.build(plain.houseCells[house]);
            }
            if (otherBuilds == 1) {
                setting.build(plain.houseCells[other]);
            }
            int gain = builds == 1 ? -3 : 0;
            for (int thing = 0; thing < plain.things; thing++) {
                walk.go(thing, plain.thingWeights[thing]);
                if (plain.nearestHouse(walk.places[plain.days]) == house) {
                    gain += 5;
                }
            }
            return gain;
        }

        int pairsAtRest(int house, int other) {
            int bits = 0;
            for (int pair = 0; pair < 4; pair++) {
                int x = pair & 1;
                int y = pair >> 1;
                boolean content = gainOf(house, other, x, y) >= gainOf(house, other, 1 - x, y);
                boolean otherContent = gainOf(other, house, y, x) >= gainOf(other, house, 1 - y, x);
                if (content && otherContent) {
                    bits |= 1 << pair;
                }
            }
            return bits;
        }

        // Winds by chance.

        long chanceOfReceipt(int thing, int what) {
            setting.beAsTold();
            long sum = 0;
            for (int winds = 0; winds < 1 << plain.winds; winds++) {
                long ways = waysOf(winds);
                setting.windsBlowing = winds;
                if (ways > 0 && walk.isEverReceived(thing)) {
                    sum += ways;
                }
            }
            return partOfFraction(sum, waysInAll(), what);
        }

        long meanOfSteps(int thing, int what) {
            setting.beAsTold();
            long sum = 0;
            for (int winds = 0; winds < 1 << plain.winds; winds++) {
                long ways = waysOf(winds);
                setting.windsBlowing = winds;
                if (ways > 0) {
                    walk.go(thing, plain.thingWeights[thing]);
                    sum += ways * walk.allSteps();
                }
            }
            return partOfFraction(sum, waysInAll(), what);
        }

        /** Of ten ways each wind can go, in how many of all together just these winds blow. */
        private long waysOf(int winds) {
            long product = 1;
            for (int wind = 0; wind < plain.winds; wind++) {
                product *= hasBit(winds, wind) ? plain.odds : 10 - plain.odds;
            }
            return product;
        }

        private long waysInAll() {
            long product = 1;
            for (int wind = 0; wind < plain.winds; wind++) {
                product *= 10;
            }
            return product;
        }

        // Years drawn.

        int windsDrawn(int seed) {
            long x = seed;
            int bits = 0;
            for (int wind = 0; wind < plain.winds; wind++) {
                x = (DRAW_FACTOR * x + DRAW_MORE) % DRAW_MODULUS;
                if (x / 65536 % 10 < plain.odds) {
                    bits |= 1 << wind;
                }
            }
            return bits;
        }

        boolean isReceivedBy(int winds, int thing) {
            setting.beAsTold();
            setting.windsBlowing = winds;
            return walk.isEverReceived(thing);
        }

        int thingsReceivedBy(int winds) {
            int bits = 0;
            for (int thing = 0; thing < plain.things; thing++) {
                if (isReceivedBy(winds, thing)) {
                    bits |= 1 << thing;
                }
            }
            return bits;
        }
    }

    /** What a thing can have weighed, and by which laws it can have gone, by a row of days and cells seen. */
    private static final class Guesses {
        private final Plain plain;
        private final Slots slots;
        private final Trials trials;
        private final boolean[] fitting;
        private final int[][] ways;
        int chosenDay;
        int leftAtWorst;

        Guesses(Plain plain, Slots slots, Trials trials) {
            this.plain = plain;
            this.slots = slots;
            this.trials = trials;
            fitting = new boolean[MOST_WEIGHT + 1];
            ways = new int[MOST_WEIGHT + 1][MOST_DAYS + 1];
        }

        int refusalOf(int slot, int thing) {
            if (!slots.isSlot(slot) || thing < 0 || thing >= plain.things) {
                return UNKNOWN;
            }
            if (!slots.hasRow(slot)) {
                return NOTHING;
            }
            return isSeenRow(slot) ? 0 : UNKNOWN;
        }

        private boolean isSeenRow(int slot) {
            int length = slots.lengths[slot];
            if (length % 2 != 0) {
                return false;
            }
            for (int i = 0; i + 1 < length; i += 2) {
                if (!isDaySeen(slots.rows[slot][i]) || !isPlaceSeen(slots.rows[slot][i + 1])) {
                    return false;
                }
            }
            return true;
        }

        private boolean isDaySeen(long number) {
            return number >= 0 && number <= plain.days;
        }

        private boolean isPlaceSeen(long number) {
            return number == NONE || number >= 0 && number < CELL_NUMBERS && plain.hasCell((int) number);
        }

        /** Whether the walk just gone lay as the row has it. */
        private boolean walkFits(int slot) {
            for (int i = 0; i + 1 < slots.lengths[slot]; i += 2) {
                long day = slots.rows[slot][i];
                if (!isDaySeen(day) || trials.walk.places[(int) day] != slots.rows[slot][i + 1]) {
                    return false;
                }
            }
            return true;
        }

        /** Lays out what the questions below are asked of, and answers 0, or tells why there is nothing to ask. */
        int tryWeights(int slot, int thing) {
            int refusal = refusalOf(slot, thing);
            if (refusal != 0) {
                return refusal;
            }
            trials.setting.beAsTold();
            for (int weight = 0; weight <= MOST_WEIGHT; weight++) {
                trials.walk.go(thing, weight);
                fitting[weight] = walkFits(slot);
                System.arraycopy(trials.walk.places, 0, ways[weight], 0, MOST_DAYS + 1);
            }
            return 0;
        }

        int countFitting() {
            int sum = 0;
            for (int weight = 0; weight <= MOST_WEIGHT; weight++) {
                sum += fitting[weight] ? 1 : 0;
            }
            return sum;
        }

        int leastFitting() {
            for (int weight = 0; weight <= MOST_WEIGHT; weight++) {
                if (fitting[weight]) {
                    return weight;
                }
            }
            return NONE;
        }

        int greatestFitting() {
            for (int weight = MOST_WEIGHT; weight >= 0; weight--) {
                if (fitting[weight]) {
                    return weight;
                }
            }
            return NONE;
        }

        void chooseDay() {
            chosenDay = NONE;
            leftAtWorst = countFitting();
            for (int day = 0; day <= plain.days; day++) {
                int left = mostInOnePlace(day);
                if (left < leftAtWorst) {
                    leftAtWorst = left;
                    chosenDay = day;
                }
            }
        }

        private int mostInOnePlace(int day) {
            int most = 0;
            for (int weight = 0; weight <= MOST_WEIGHT; weight++) {
                if (fitting[weight]) {
                    most = Math.max(most, fittingIn(ways[weight][day], day));
                }
            }
            return most;
        }

        private int fittingIn(int place, int day) {
            int sum = 0;
            for (int weight = 0; weight <= MOST_WEIGHT; weight++) {
                if (fitting[weight] && ways[weight][day] == place) {
                    sum++;
                }
            }
            return sum;
        }

        int fittingLaws(int slot, int thing) {
            trials.setting.beAsTold();
            int bits = 0;
            for (int law = 0; law < LAWS; law++) {
                trials.setting.lawInForce = law;
                trials.walk.go(thing, plain.thingWeights[thing]);
                if (walkFits(slot)) {
                    bits |= 1 << law;
                }
            }
            return bits;
        }
    }

    /** Rows of numbers; a slot without a row has the length NONE. */
    private static final class Slots {
        static final int MOST_NUMBERS = 60;
        static final int WIDTHS = 4;
        private static final int SLOTS = 4;

        final long[][] rows;
        final int[] widths;
        final int[] lengths;

        Slots() {
            rows = new long[SLOTS][MOST_NUMBERS];
            widths = new int[SLOTS];
            lengths = new int[SLOTS];
            Arrays.fill(lengths, NONE);
        }

        boolean isSlot(int slot) {
            return slot >= 0 && slot < SLOTS;
        }

        boolean hasRow(int slot) {
            return lengths[slot] != NONE;
        }

        boolean hasRange(int slot, int from, int n) {
            return from >= 0 && n >= 0 && n <= lengths[slot] - from;
        }

        int rowsHeld() {
            int sum = 0;
            for (int slot = 0; slot < SLOTS; slot++) {
                sum += hasRow(slot) ? 1 : 0;
            }
            return sum;
        }

        void lay(int slot, int width, int n) {
            Arrays.fill(rows[slot], 0L);
            widths[slot] = width;
            lengths[slot] = n;
        }

        void put(int slot, int i, long number) {
            rows[slot][i] = cutTo(widths[slot], number);
        }

        private static long cutTo(int width, long number) {
            switch (width) {
                case 0:
                    return (byte) number;
                case 1:
                    return (short) number;
                case 2:
                    return (int) number;
                default:
                    return number;
            }
        }
    }
}
