import java.util.List;
import java.util.function.Supplier;

/** Each sentence of the Promises 1 to 73 that names a boundary: what is taken, what is refused, what stays then. */
public final class BoundaryPromisesTest extends Asking {
    /** Things at each day: 0: 11, 11, 3, 3, 3. 1: 40, 40, 31, 31, 31. 2: 22, 42, 43, 43, 42. */
    private static final String VALE = "plain days 4 law 0 odds 5 wide 5 high 4;house 0 0;house 4 3;"
            + "shelter 2 1;shelter 3 3;thing weighs 3 at 1 1 for 1;thing weighs 10 at 4 0 for 0;"
            + "thing weighs 0 at 2 2 for 1;wind 1 9 at 0;wind 2 12 at 1;wind 3 20 at 1;wind 0 2 at 3;";

    /** As little as there may be, with one of each kind but two houses. */
    private static final String SMALL = "plain days 1 law 1 odds 0 wide 2 high 2;house 0 0;house 1 1;shelter 1 0;"
            + "thing weighs 0 at 0 1 for 0;wind 0 1 at 0;";

    private static final String BARE = "plain days 1 law 0 odds 0 wide 2 high 2;";

    private static final int LEAST = Integer.MIN_VALUE;
    private static final int GREATEST = Integer.MAX_VALUE;

    /** How many of each kind the plain has of which bounds are asked. */
    private static String text;
    private static int days;
    private static int wide;
    private static int high;
    private static int houses;
    private static int shelters;
    private static int things;
    private static int winds;

    private interface Call {
        long ask(WindSigned w, int n);
    }

    public static void main(String[] args) {
        feeding();
        ending();
        telling();
        faults();
        of(VALE, 4, 5, 4, 2, 2, 3, 4);
        of(SMALL, 1, 2, 2, 2, 1, 1, 1);
        of(FULL, 14, 9, 9, 6, 8, 6, 9);
        of(BARE, 1, 2, 2, 0, 0, 0, 0);
        of("", -1, 0, 0, 0, 0, 0, 0);
        onceMoreWithActs();
        none();
        firstOfSeveral();
        daysToTheLast();
        together();
        lulls();
        trials();
        guesses();
        sharesAndGame();
        actsFull();
        actsTakenBack();
        rating();
        counting();
        images();
        rows();
        writing();
        pasting();
        asBits();
        seeds();
        questionsChangeNothing();
        finish("BoundaryPromisesTest");
    }

    private static void promise(int number, String what) {
        says("promise " + number + ": " + what);
    }

    /** What is refused answers so, and all stays that questions can see. */
    private static void refused(long refusal, WindSigned w, Supplier<? extends Number> call) {
        List<Long> before = seen(w);
        due(refusal, call.get().longValue(), "what is to be refused");
        if (!before.equals(seen(w))) {
            fail("all is to stay");
        }
    }

    // Promises 2 to 5: the tape.

    private static void feeding() {
        promise(2, "how many it has; NONE, and none come, if it would have more than 700");
        int blanks = 0x20202020;
        for (int length = 676; length <= 684; length++) {
            WindSigned w = new WindSigned();
            feed(w, BARE + " ".repeat(length - BARE.length()));
            boolean fits = length <= 680;
            due(fits ? length + 20 : -1, w.feed(blanks, blanks, blanks, blanks, blanks), "feed at " + length);
            due(fits ? length + 20 : length, w.count(11), "count(11) at " + length);
            due(of(1, 0, 2), w.plain(), w.count(11), w.count(3));
        }
        WindSigned w = new WindSigned();
        for (int i = 1; i <= 35; i++) {
            due(20 * i, w.feed(blanks, blanks, blanks, blanks, blanks));
        }
        for (int i = 0; i < 3; i++) {
            due(of(-1, 700), w.feed(LEAST, GREATEST, 0, -1, 1), w.count(11));
        }
        due(of(0, 0), w.plain(), w.count(11));
        // Empty again, it takes 700 bytes again.
        feed(w, FULL + " ".repeat(700 - FULL.length()));
        due(of(700, -1, 30, 0), w.count(11), w.feed(0, 0, 0, 0, 0), w.plain(), w.count(11));
        // A fault at the last byte of a full tape, and at its end.
        feed(w, BARE + " ".repeat(699 - BARE.length()) + "?");
        due(of(-4, 1, 699), w.plain(), w.fault(0), w.fault(1));
        w.end(0);
        feed(w, BARE + " ".repeat(695 - BARE.length()) + "house");
        due(of(-4, 1, 700, -1), w.plain(), w.fault(0), w.fault(1), w.feed(0, 0, 0, 0, 0));
        promise(2, "four of each number, the highest first");
        w = new WindSigned();
        due(20, w.feed(0x706c6169, 0x6e206461, 0x79732031, 0x206c6177, 0x2030206f));
        due(40, w.feed(0x64647320, 0x32207769, 0x64652033, 0x20686967, 0x6820343b));
        due(of(1, 1, 0, 2, 3, 4), w.plain(), w.count(0), w.count(1), w.count(2), w.count(3), w.count(4));
        // Bytes above 127 are bytes, too, and none of them a token.
        w = new WindSigned();
        due(of(20, -4, 1, 0), w.feed(-1, -1, -1, -1, -1), w.plain(), w.fault(0), w.fault(1));
        due(of(20, 20, -4, 0), w.end(20), w.count(11), w.plain(), w.fault(1));
    }

    private static void ending() {
        promise(3, "the TAPE has its first n bytes alone: n");
        for (int n : new int[] {0, 1, 39, 40, 41, BARE.length() + 20}) {
            WindSigned w = new WindSigned();
            feed(w, BARE + " ".repeat(20));
            due(of(n, n, n), w.end(n), w.count(11), w.end(n));
            int plain = n == 0 ? 0 : n < BARE.length() ? -4 : 1;
            due(of(plain, plain == -4 ? n : 0), w.plain(), w.count(11));
        }
        promise(3, "NONE, and nothing happens, if it has not so many, or n is below 0");
        for (int length : new int[] {0, 1, 60, 699, 700}) {
            for (int n : new int[] {length + 1, -1, LEAST, GREATEST, 701}) {
                WindSigned w = told(VALE);
                feed(w, BARE.repeat(18).substring(0, length));
                refused(-1, w, () -> w.end(n));
                due(length, w.end(length), "end(" + length + ")");
            }
        }
        // What was cut off does not come back.
        WindSigned w = new WindSigned();
        feed(w, BARE + "house 0 0;");
        due(of(40, -1, 40), w.end(40), w.end(50), w.count(11));
        due(of(60, 50, -4, 1, 40), w.feed(0, 0, 0, 0, 0), w.end(50), w.plain(), w.fault(0), w.fault(1));
    }

    private static void telling() {
        promise(4, "the TAPE (empty then) is the PLAIN (in place of another), nothing done");
        WindSigned w = told(FULL);
        w.blows(0, 40, 13);
        w.row(2, 1, 3);
        w.image(1);
        feed(w, SMALL);
        due(of(6, 0, 0, 1, 2), w.plain(), w.count(11), w.count(9), w.count(12), w.count(5));
        due(of(1, -2, -2, -2), w.thing(0, 1), w.thing(1, 0), w.house(2), w.at(0, 2));
        due(of(0, 14, 1), w.back(1), w.count(0), w.count(9));
        promise(4, "how many LINES (0: there is none then)");
        for (String blanks : List.of("", " ", "\n", " \n ".repeat(200))) {
            w = told(VALE);
            w.row(0, 0, 0);
            feed(w, blanks);
            due(of(0, 0, -1, 0, 0), w.plain(), w.fault(0), w.fault(1), w.count(10), w.count(11));
            due(of(-2, -2, -2, -2, 1), w.heir(), w.at(0, 0), w.undo(), w.house(0), w.count(12));
            for (int what = 0; what < 12; what++) {
                due(0, w.count(what), "count(" + what + ") without a plain");
            }
        }
        due(of(1, 6, 12, 30), lines(BARE), lines(SMALL), lines(VALE), lines(FULL));
        promise(4, "-4: a FAULT (all stays)");
        for (String wrong : List.of("x", VALE + "x", VALE.substring(1), FULL + "house 0 0;", "plain", ";")) {
            WindSigned kept = told(VALE);
            kept.blows(1, 40, 2);
            kept.image(0);
            row(kept, 3, 0, 0, 11);
            feed(kept, wrong);
            refused(-4, kept, kept::plain);
            due(of(wrong.length(), 0, 1), kept.count(11), kept.back(0), kept.count(9));
        }
    }

    private static int lines(String text) {
        WindSigned w = new WindSigned();
        feed(w, text);
        return w.plain();
    }

    private static void faults() {
        promise(5, "of the latest plain()");
        WindSigned w = new WindSigned();
        feed(w, "x");
        due(of(-4, 1, 0), w.plain(), w.fault(0), w.fault(1));
        due(of(0, 1, 0), w.end(0), w.fault(0), w.fault(1));
        due(of(0, 0, -1), w.plain(), w.fault(0), w.fault(1));
        feed(w, BARE + "house 0 2;");
        due(of(-4, 2, 48), w.plain(), w.fault(0), w.fault(1));
        feed(w, "house 1 1;");
        due(of(2, 48, -4, 2, 48), w.fault(0), w.fault(1), w.plain(), w.fault(0), w.fault(1));
        due(of(40, 1, 0, -1), w.end(40), w.plain(), w.fault(0), w.fault(1));
        promise(5, "0 without; NONE for another what, and ahead of any (what 1)");
        w = new WindSigned();
        due(of(0, -1), w.fault(0), w.fault(1));
        w.end(1);
        feed(w, "x");
        due(of(0, -1), w.fault(0), w.fault(1));
        w.plain();
        for (int what : new int[] {-1, 2, 3, LEAST, GREATEST}) {
            due(-1, w.fault(what), "fault(" + what + ")");
            due(-1, new WindSigned().fault(what), "fault(" + what + ")");
        }
    }

    // Promises 6 to 67: the first and the last that there is, and the ones beside them.

    private static void of(String told, int d, int x, int y, int h, int s, int t, int v) {
        text = told;
        days = d;
        wide = x;
        high = y;
        houses = h;
        shelters = s;
        things = t;
        winds = v;
        whatIsTold();
        whereThingsLie();
        whoHasThem();
        howTheyLie();
        whichWinds();
        whatElse();
        whatWasSeen();
        whatIsWorth();
        whatIsDone();
        whatIsDrawn();
    }

    /** An object with the plain, a row in each slot and an image of each number. */
    private static WindSigned fresh() {
        WindSigned w = told(text);
        for (int i = 0; i < 4; i++) {
            w.row(i, i, 0);
            w.image(i % 3);
        }
        return w;
    }

    /** From the lowest to the highest it is taken, beside them refused; without any (the highest is lower) always. */
    private static void range(int promise, String what, long refusal, int lowest, int highest, Call call) {
        promise(promise, what + " in " + text);
        boolean any = highest >= lowest;
        if (any) {
            for (int n : new int[] {lowest, highest}) {
                long answer = call.ask(fresh(), n);
                if (answer == refusal) {
                    fail(n + " is refused");
                }
            }
        }
        for (int n : new int[] {lowest - 1, any ? highest + 1 : lowest, LEAST, GREATEST}) {
            WindSigned w = fresh();
            refused(refusal, w, () -> call.ask(w, n));
        }
    }

    private static void ofThing(int promise, Call call) {
        range(promise, "THING", -2, 0, things - 1, call);
    }

    private static void ofHouse(int promise, Call call) {
        range(promise, "HOUSE", -2, 0, things > 0 ? houses - 1 : -1, call);
    }

    private static void ofDay(int promise, Call call) {
        range(promise, "DAY", -2, 0, days, call);
    }

    private static void ofEarlyDay(int promise, Call call) {
        range(promise, "DAY ahead of the last", -2, 0, days - 1, call);
    }

    private static void ofThingsDay(int promise, Call call) {
        range(promise, "DAY of a THING", -2, 0, things > 0 ? days : -1, call);
    }

    private static void whatIsTold() {
        range(6, "HOUSE", -2, 0, houses - 1, WindSigned::house);
        range(7, "SHELTER", -2, 0, shelters - 1, WindSigned::shelter);
        ofThing(8, (w, n) -> w.thing(n, 0));
        ofThing(8, (w, n) -> w.thing(n, 2));
        range(8, "what", -2, 0, things > 0 ? 2 : -1, (w, n) -> w.thing(0, n));
        range(9, "WIND", -2, 0, winds - 1, (w, n) -> w.wind(n, 0));
        range(9, "WIND", -2, 0, winds - 1, (w, n) -> w.wind(n, 2));
        range(9, "what", -2, 0, winds > 0 ? 2 : -1, (w, n) -> w.wind(0, n));
    }

    private static void whereThingsLie() {
        ofThing(10, (w, n) -> w.at(n, 0));
        ofThingsDay(10, (w, n) -> w.at(0, n));
        ofDay(11, (w, n) -> w.here(0, n));
        promise(11, "there is no such cell on the PLAIN: " + text);
        WindSigned w = fresh();
        for (int cell = -11; cell <= 121; cell++) {
            boolean isCell = cell >= 0 && cell / 10 < wide && cell % 10 < high;
            due(isCell ? 1 : 0, w.here(cell, 0) != -2 ? 1 : 0, "here(" + cell + ", 0)");
        }
        due(of(-2, -2), w.here(LEAST, 0), w.here(GREATEST, 0));
        ofEarlyDay(12, WindSigned::moved);
        ofThing(13, (v, n) -> v.steps(n, 0));
        range(13, "DAY ahead of the last", -2, 0, things > 0 ? days - 1 : -1, (v, n) -> v.steps(0, n));
        ofThing(14, WindSigned::worn);
        ofThing(15, WindSigned::received);
        ofDay(16, WindSigned::signed);
        ofThing(17, WindSigned::waits);
        ofDay(19, WindSigned::gone);
    }

    private static void whoHasThem() {
        ofThing(20, (w, n) -> w.had(n, 0));
        ofThingsDay(20, (w, n) -> w.had(0, n));
        range(21, "HOUSE", -2, 0, houses - 1, (w, n) -> w.has(n, 0));
        range(21, "DAY", -2, 0, houses > 0 ? days : -1, (w, n) -> w.has(0, n));
        ofDay(22, WindSigned::right);
        ofDay(23, WindSigned::rich);
        ofThing(24, WindSigned::home);
    }

    private static void howTheyLie() {
        ofThing(25, WindSigned::far);
        ofThing(26, (w, n) -> w.apart(n, 0, 0));
        ofThing(26, (w, n) -> w.apart(0, n, 0));
        ofThingsDay(26, (w, n) -> w.apart(0, 0, n));
        ofThing(27, (w, n) -> w.meet(n, 0));
        ofThing(27, (w, n) -> w.meet(0, n));
        ofDay(28, WindSigned::heap);
        ofDay(29, WindSigned::under);
        ofDay(30, WindSigned::edge);
        ofThing(31, WindSigned::mostly);
        ofThing(32, (w, n) -> w.lee(n, 0));
        ofThingsDay(32, (w, n) -> w.lee(0, n));
    }

    private static void whichWinds() {
        ofEarlyDay(35, WindSigned::force);
        ofThing(37, WindSigned::movers);
        range(38, "WIND", -2, 0, winds - 1, WindSigned::moves);
        WindSigned w = fresh();
        promise(33, "there is no PLAIN, if there are no LINES: " + text);
        boolean isPlain = days > 0;
        for (long answer : of(w.heir(), w.lulls(), w.lull(), w.gale(), w.idle(), w.strewn(), w.blame(), w.burden(), w.law(),
                w.anew())) {
            due(isPlain ? 0 : 1, answer == -2 ? 1 : 0, "an answer that -2 is");
        }
        due(isPlain ? -5 : -2, w.undo(), "undo()");
    }

    private static void whatElse() {
        ofThing(41, WindSigned::keep);
        ofThing(42, WindSigned::keeps);
        ofThing(43, (w, n) -> w.blow(n, 0, 0, 0));
        ofHouse(43, (w, n) -> w.blow(0, n, 0, 0));
        range(43, "DAY ahead of the last", -2, 0, things > 0 ? days - 1 : -1, (w, n) -> w.blow(0, 0, n, 0));
        range(43, "DIRECTION", -2, 0, things > 0 ? 3 : -1, (w, n) -> w.blow(0, 0, 0, n));
        ofThing(44, (w, n) -> w.bring(n, 0));
        ofHouse(44, (w, n) -> w.bring(0, n));
        range(53, "LAW", -2, 0, days > 0 ? 3 : -1, WindSigned::by);
    }

    private static void whatWasSeen() {
        int last = things > 0 ? 3 : -1;
        range(47, "SLOT", -2, 0, last, (w, n) -> w.weights(n, 0));
        ofThing(47, (w, n) -> w.weights(0, n));
        range(48, "SLOT", -2, 0, last, (w, n) -> w.least(n, 0));
        ofThing(48, (w, n) -> w.least(0, n));
        range(49, "SLOT", -2, 0, last, (w, n) -> w.greatest(n, 0));
        ofThing(49, (w, n) -> w.greatest(0, n));
        range(50, "SLOT", -2, 0, last, (w, n) -> w.ask(n, 0));
        ofThing(50, (w, n) -> w.ask(0, n));
        range(51, "SLOT", -2, 0, last, (w, n) -> w.leaves(n, 0));
        ofThing(51, (w, n) -> w.leaves(0, n));
        range(52, "SLOT", -2, 0, last, (w, n) -> w.laws(n, 0));
        ofThing(52, (w, n) -> w.laws(0, n));
        // Without a row -2 is still asked ahead of -6.
        promise(47, "-2 ahead of -6: " + text);
        WindSigned w = told(text);
        long empty = things > 0 ? -6 : -2;
        due(of(empty, empty, empty, empty, empty, empty), guesses(w, 3, 0));
        due(of(-2, -2, -2, -2, -2, -2), guesses(w, 3, things));
        due(of(-2, -2, -2, -2, -2, -2), guesses(w, 4, 0));
    }

    private static void whatIsWorth() {
        range(55, "a set", -2, 0, days > 0 ? (1 << shelters) - 1 : -1, WindSigned::worth);
        range(56, "SHELTER", -1000, 0, shelters - 1, (w, n) -> w.share(n, 0));
        range(56, "what", -1000, 0, shelters > 0 ? 1 : -1, (w, n) -> w.share(0, n));
        range(57, "HOUSE, of which the other is the first", -2, 1, houses - 1, (w, n) -> w.rests(n, 0));
        range(57, "HOUSE, of which the first is the first", -2, 1, houses - 1, (w, n) -> w.rests(0, n));
        range(57, "HOUSE, of which the other is the last", -2, 0, houses - 2, (w, n) -> w.rests(n, houses - 1));
        range(57, "HOUSE, of which the first is the last", -2, 0, houses - 2, (w, n) -> w.rests(houses - 1, n));
        range(58, "HOUSE, of which the other is the first", -1000, 1, houses - 1, (w, n) -> w.gets(n, 0, 0, 0));
        range(58, "HOUSE, of which the first is the first", -1000, 1, houses - 1, (w, n) -> w.gets(0, n, 1, 1));
        range(58, "HOUSE, of which the other is the last", -1000, 0, houses - 2, (w, n) -> w.gets(n, houses - 1, 1, 0));
        range(58, "choice", -1000, 0, houses > 1 ? 1 : -1, (w, n) -> w.gets(0, 1, n, 0));
        range(58, "the other choice", -1000, 0, houses > 1 ? 1 : -1, (w, n) -> w.gets(0, 1, 0, n));
        promise(57, "one twice: " + text);
        WindSigned w = fresh();
        for (int house = 0; house < Math.max(1, houses); house++) {
            due(of(-2, -1000), w.rests(house, house), w.gets(house, house, 0, 0));
        }
        ofThing(59, (v, n) -> v.chance(n, 0));
        range(59, "what", -2, 0, things > 0 ? 1 : -1, (v, n) -> v.chance(0, n));
        ofThing(60, (v, n) -> v.mean(n, 0));
        range(60, "what", -2, 0, things > 0 ? 1 : -1, (v, n) -> v.mean(0, n));
    }

    private static void whatIsDone() {
        boolean isPlain = days > 0;
        range(61, "DIRECTION", -2, 0, isPlain ? 3 : -1, (w, n) -> w.blows(n, 1, 0));
        range(61, "FORCE", -2, 1, isPlain ? 40 : 0, (w, n) -> w.blows(0, n, 0));
        ofEarlyDay(61, (w, n) -> w.blows(0, 1, n));
        ofThing(62, (w, n) -> w.brings(n, 0, 0));
        range(62, "DAY ahead of the last", -2, 0, things > 0 ? days - 1 : -1, (w, n) -> w.brings(0, 0, n));
        promise(62, "a cell on the PLAIN: " + text);
        for (int cell = -11; cell <= 121; cell++) {
            boolean isCell = things > 0 && cell >= 0 && cell / 10 < wide && cell % 10 < high;
            WindSigned w = fresh();
            due(isCell ? 1 : 0, w.brings(0, cell, Math.max(0, days - 1)) != -2 ? 1 : 0, "brings(0, " + cell + ", ..)");
            due(isCell ? 1 : 0, w.count(9), "count(9)");
            if (isCell) {
                due(cell, w.at(0, days), "at(0, " + days + ")");
            }
        }
        ofThing(67, (w, n) -> w.rate(n, 0));
        range(67, "n", -2, 0, things > 0 ? 30 : -1, (w, n) -> w.rate(0, n));
    }

    private static void whatIsDrawn() {
        boolean isPlain = days > 0;
        range(65, "seed", -2, 0, isPlain ? 2000000000 : -1, (w, n) -> w.drawn(n, 0));
        range(65, "seed", -2, 0, isPlain ? 2000000000 : -1, (w, n) -> w.drawn(n, 1));
        range(65, "what", -2, 0, isPlain ? 1 : -1, (w, n) -> w.drawn(0, n));
        range(66, "seed", -2, 0, things > 0 ? 2000000000 : -1, (w, n) -> w.luck(n, 1, 0));
        range(66, "n", -2, 1, things > 0 ? 20 : 0, (w, n) -> w.luck(0, n, 0));
        ofThing(66, (w, n) -> w.luck(0, 1, n));
        range(69, "k", -2, 0, 2, WindSigned::image);
        range(70, "k", -2, 0, 2, WindSigned::back);
    }

    /** Acts change none of the bounds. */
    private static void onceMoreWithActs() {
        WindSigned w = told(SMALL);
        promise(61, "acts are no WINDS told, and no DAYS more");
        due(of(1, 0), w.blows(0, 1, 0), w.brings(0, 0, 0));
        due(of(1, 1, 2, 1), w.count(8), w.count(7), w.count(9), w.count(0));
        due(of(-2, -2, -2, -2, -2), w.wind(1, 0), w.moves(1), w.at(0, 2), w.moved(1), w.thing(1, 0));
        due(of(1, 0), w.drawn(5, 1), w.drawn(5, 0));
    }

    // What answers NONE.

    private static void none() {
        WindSigned away = told(SMALL.replace("wind 0 1", "wind 3 1"));
        promise(10, "NONE: it is GONE");
        due(of(1, -1), away.at(0, 0), away.at(0, 1));
        promise(20, "NONE: by none");
        due(of(0, -1), away.had(0, 0), away.had(0, 1));
        promise(26, "NONE: one is GONE");
        due(of(0, -1), away.apart(0, 0, 0), away.apart(0, 0, 1));
        WindSigned oneGone = told(SMALL.replace("wind 0 1", "wind 3 1") + "thing weighs 9 at 1 1 for 0;");
        due(of(1, 1, -1, -1, 0), oneGone.apart(0, 1, 0), oneGone.apart(1, 0, 0), oneGone.apart(0, 1, 1),
                oneGone.apart(1, 0, 1), oneGone.apart(1, 1, 1));
        promise(32, "GONE: 0");
        due(of(0, 0), away.lee(0, 0), away.lee(0, 1));
        due(of(8, 0), told(SMALL.replace("shelter 1 0", "shelter 1 1").replace("wind 0 1", "wind 2 1")).lee(0, 0),
                told(SMALL.replace("shelter 1 0", "shelter 1 1").replace("wind 0 1", "wind 2 1")).lee(0, 1));
        promise(15, "NONE: never");
        due(of(-1, 0), told(SMALL.replace("weighs 0", "weighs 1")).received(0), away.received(0));
        promise(18, "NONE: there are none");
        due(of(-1, -1), told(BARE).heir(), told(BARE + "house 0 0;wind 0 1 at 0;").heir());
        promise(23, "NONE: there are none");
        due(of(-1, -1, 0, 0), told(BARE).rich(0), told(BARE).rich(1), told(BARE + "house 0 0;").rich(0),
                told(BARE + "house 0 0;").rich(1));
        promise(24, "NONE: in none");
        due(of(0, -1), away.home(0), told(SMALL.replace("for 0", "for 1")).home(0));
        promise(27, "NONE: in none; GONE ones lie in no cell");
        WindSigned two = told(SMALL.replace("shelter 1 0;", "").replace("wind 0 1", "wind 3 1")
                + "thing weighs 0 at 0 0 for 0;");
        due(of(3, -1, -1, 0, 0), two.gone(1), two.meet(0, 1), two.meet(1, 0), two.meet(0, 0), two.meet(1, 1));
        promise(31, "NONE: by none ever");
        due(of(0, 0), away.mostly(0), told(SMALL).mostly(0));
        promise(36, "NONE: none are moved");
        due(of(-1, -1, 0), told(BARE).gale(), told(SMALL.replace("weighs 0", "weighs 1")).gale(), away.gale());
        promise(41, "NONE: by none");
        WindSigned brought = told("plain days 2 law 0 odds 0 wide 9 high 2;house 0 0;thing weighs 0 at 0 0 for 0;"
                + "wind 1 1 at 1;");
        due(of(1, 2, 50, -1, -1), brought.keep(0), brought.keeps(0), brought.brings(0, 40, 0), brought.keep(0),
                brought.keeps(0));
        promise(43, "NONE: by none");
        // In the corner it is sheltered from one wind, goes away by another, and is stopped at once by a third.
        due(of(-1, -1, 1), told(SMALL).blow(0, 1, 0, 3), told(SMALL).blow(0, 0, 0, 0), told(SMALL).blow(0, 0, 0, 1));
        promise(44, "NONE: by none");
        WindSigned heavy = told("plain days 1 law 0 odds 0 wide 9 high 2;house 0 0;house 8 1;"
                + "thing weighs 30 at 0 0 for 0;");
        due(of(-1, 0, -1), heavy.bring(0, 1), heavy.bring(0, 0), heavy.blow(0, 1, 0, 1));
        heavy.rate(0, 28);
        due(of(1, 40), heavy.bring(0, 1), heavy.blow(0, 1, 0, 1));
        promise(45, "NONE: none");
        due(of(-1, -1, 0), told(BARE).blame(), told(SMALL).blame(), away.blame());
        promise(46, "NONE: none");
        due(of(-1, -1), told(BARE).burden(), told(SMALL).burden());
        promise(48, "NONE: there is none");
        WindSigned w = told(VALE);
        row(w, 0, 0, 0, 0);
        due(of(0, -1, -1, -1, 0, 0), guesses(w, 0, 0));
    }

    private static void firstOfSeveral() {
        promise(18, "the first of several");
        String head = "plain days 2 law 0 odds 5 wide 9 high 2;house 0 0;house 8 0;";
        String still = "thing weighs 9 at 4 0 for 0;";
        String light = "thing weighs 0 at 4 0 for 0;";
        due(of(0, 1, 0), told(head + still + still).heir(), told(head + light + still + still + "wind 1 1 at 1;").heir(),
                told(head + light + light + "wind 1 1 at 0;").heir());
        promise(23, "the first of several");
        due(0, told(head + "thing weighs 0 at 8 0 for 0;thing weighs 0 at 0 0 for 0;").rich(0));
        due(1, told(head + "thing weighs 0 at 8 0 for 0;thing weighs 0 at 0 0 for 0;thing weighs 0 at 8 1 for 0;").rich(0));
        promise(31, "the first of several");
        // Two days with the one, two with the other: three moves of days 0 to 3.
        String four = head.replace("days 2", "days 3") + "thing weighs 0 at 5 0 for 0;";
        due(of(0, 1, 0), told(four + "wind 3 1 at 1;").mostly(0), told(four + "wind 3 1 at 2;").mostly(0),
                told(four + "wind 3 1 at 0;").mostly(0));
        promise(36, "the first of several, if any are");
        due(of(0, 1, 1), told(head + light + "wind 1 1 at 0;wind 1 1 at 1;").gale(), told(head + light + "wind 1 1 at 1;")
                .gale(), told(head + light + still + "wind 1 1 at 0;wind 1 10 at 1;").gale());
        promise(42, "the least set of so few");
        // It lies at the upper edge: there is no cell in direction 0.
        due(of(4, 2, 6), told(head + light + "wind 0 1 at 0;wind 2 1 at 0;").keeps(0),
                told(head + light + "wind 1 1 at 0;").keeps(0), told(head + light + "wind 1 1 at 0;wind 2 1 at 0;").keeps(0));
        promise(44, "the first DAY, DIRECTION of several");
        due(of(0, 1, 3), told(head + light).bring(0, 0), told(head + light).bring(0, 1),
                told(head + "thing weighs 0 at 5 0 for 0;").bring(0, 0));
        promise(45, "most, if more than now, the first of several");
        // Without either wind it stays on the side of the first house.
        due(of(0, -1, 1), told(head + light + "wind 1 1 at 0;wind 1 1 at 0;wind 3 3 at 0;wind 1 1 at 1;").blame(),
                told(head + light + "wind 1 1 at 0;wind 1 1 at 1;").blame(),
                told(head + light + light + "thing weighs 3 at 4 0 for 0;wind 1 1 at 0;wind 1 4 at 0;wind 3 1 at 1;")
                .blame());
        promise(46, "most, if more than now, the first of several");
        String apart = head + "thing weighs 0 at 4 0 for 1;thing weighs 0 at 4 1 for 1;shelter 3 1;shelter 5 0;wind 1 1 at 0;";
        due(of(0, 1), told(apart).burden(), told(apart + "thing weighs 0 at 4 0 for 1;").burden());
        promise(50, "if fewer than now, the first of several");
        // In both of the days what weighs up to 11 is at the edge, and what weighs 20 and more where it was.
        WindSigned w = told(head + light + "wind 1 20 at 0;");
        w.row(0, 0, 0);
        due(of(31, 1, 12), w.weights(0, 0), w.ask(0, 0), w.leaves(0, 0));
        // By the first wind all come to the edge; the second one tells them apart.
        w = told(head + light + "wind 1 40 at 0;wind 3 40 at 1;");
        w.row(0, 0, 0);
        due(of(31, 2), w.weights(0, 0), w.ask(0, 0));
        promise(54, "the least of several");
        // By law 1 it goes away, by law 2 into the lee, with a step each; by the others it is blown back later.
        due(of(0, 0, 1), told(BARE).law(), told(head + light).law(), told(head + "shelter 1 0;"
                + "thing weighs 0 at 8 0 for 0;wind 1 1 at 0;wind 3 40 at 1;").law());
    }

    private static void daysToTheLast() {
        String head = "plain days 14 law 0 odds 5 wide 9 high 2;house 0 0;house 8 0;thing weighs 0 at 0 0 for 1;";
        promise(17, "on how many DAYS (0 to the last)");
        due(of(15, 14, 1), told(head).waits(0), told(head + "wind 1 1 at 13;").waits(0), told(head + "wind 1 1 at 0;").waits(0));
        promise(16, "by the begin of a DAY");
        WindSigned w = told(head + "wind 1 1 at 13;");
        due(of(0, 0, 1), w.signed(0), w.signed(13), w.signed(14));
        promise(24, "the first DAY in which a THING is RIGHT");
        due(of(14, -1, 1), told(head + "wind 1 40 at 13;").home(0), told(head).home(0), told(head + "wind 1 40 at 0;").home(0));
        promise(25, "at most, on any DAY (GONE aside; brought back, too)");
        due(of(0, 8), told(head).far(0), told(head + "wind 1 40 at 13;").far(0));
        w = told(head);
        due(of(81, 9, 0, 0), w.brings(0, 81, 13), w.far(0), w.brings(0, 0, 13), w.far(0));
        due(of(0, 9), w.brings(0, 81, 12), w.far(0));
        w = told(head.replace("law 0", "law 1") + "wind 1 40 at 0;");
        due(of(0, 9), w.far(0), w.worn(0));
        promise(27, "the first DAY in which two THINGS lie in one cell");
        due(of(14, 0, -1), told(head + "thing weighs 9 at 1 0 for 0;wind 1 1 at 13;").meet(0, 1),
                told(head + "thing weighs 9 at 0 0 for 0;").meet(0, 1),
                told(head + "thing weighs 9 at 2 0 for 0;wind 1 1 at 13;").meet(1, 0));
        promise(14, "STEPS of a THING in all");
        StringBuilder all = new StringBuilder(head.replace("law 0", "law 3"));
        for (int day = 0; day < 9; day++) {
            all.append("wind 1 40 at ").append(day + 5).append(';');
        }
        w = told(all.toString());
        due(126, w.worn(0));
        for (int i = 0; i < 30; i++) {
            due(1, w.blows(1, 40, 13));
        }
        due(of(126 + 420, 31 * 14), w.worn(0), w.steps(0, 13));
    }

    private static void together() {
        String head = "plain days 1 law 0 odds 5 wide 9 high 9;house 0 0;";
        promise(28, "the most THINGS in one cell");
        StringBuilder text = new StringBuilder(head);
        due(0, told(text.toString()).heap(0));
        for (int n = 1; n <= 6; n++) {
            text.append("thing weighs 0 at 4 4 for 0;");
            WindSigned w = told(text.toString());
            due(of(n, n, (1 << n) - 1, (1 << n) - 1), w.heap(0), w.heap(1), w.here(44, 0), w.has(0, 1));
        }
        WindSigned apart = told(head + "thing weighs 0 at 4 4 for 0;thing weighs 0 at 4 5 for 0;");
        due(of(1, 1), apart.heap(0), apart.apart(0, 1, 0));
        promise(26, "how far two THINGS lie apart");
        WindSigned far = told(head + "thing weighs 0 at 0 8 for 0;thing weighs 0 at 8 0 for 0;");
        due(of(16, 16, 0, 0), far.apart(0, 1, 0), far.apart(1, 0, 1), far.apart(0, 0, 0), far.apart(1, 1, 1));
        promise(30, "in cells at the edge");
        for (int cell = 0; cell < 89; cell++) {
            if (cell % 10 < 9) {
                int x = cell / 10;
                int y = cell % 10;
                boolean atEdge = x == 0 || x == 8 || y == 0 || y == 8;
                WindSigned w = told(head + "thing weighs 0 at " + x + " " + y + " for 0;");
                due(of(atEdge ? 1 : 0, 1), w.edge(0), w.here(cell, 0));
            }
        }
        // Two cells wide or high there is no other cell.
        due(1, told("plain days 1 law 0 odds 5 wide 2 high 9;house 0 0;thing weighs 0 at 1 4 for 0;").edge(0));
        due(1, told("plain days 1 law 0 odds 5 wide 9 high 2;house 0 0;thing weighs 0 at 4 1 for 0;").edge(1));
        promise(40, "cells in which some THING ever lies: how many");
        due(of(0, 1, 2), told(head).strewn(), told(head + "thing weighs 0 at 4 4 for 0;").strewn(), apart.strewn());
        due(2, told(head + "thing weighs 0 at 4 4 for 0;wind 1 40 at 0;").strewn());
        due(1, told(head.replace("law 0", "law 1") + "thing weighs 0 at 4 4 for 0;wind 1 40 at 0;").strewn());
        WindSigned brought = told(head + "thing weighs 0 at 4 4 for 0;");
        due(of(88, 2), brought.brings(0, 88, 0), brought.strewn());
    }

    private static void lulls() {
        promise(32, "bit D: a SHELTER keeps a WIND of DIRECTION D from it");
        String calm = "plain days 1 law 2 odds 0 wide 3 high 3;house 0 0;thing weighs 0 at 1 1 for 0;"
                + "thing weighs 0 at 0 0 for 0;thing weighs 0 at 2 2 for 0;";
        int[] comesFrom = {12, 1, 10, 21};
        for (int set = 0; set < 16; set++) {
            StringBuilder beside = new StringBuilder(calm);
            for (int d = 0; d < 4; d++) {
                if ((set >> d & 1) != 0) {
                    beside.append("shelter ").append(comesFrom[d] / 10).append(' ').append(comesFrom[d] % 10).append(';');
                }
            }
            // In the corners beyond the edge there is none, though by law 2 the other edge is next.
            WindSigned sheltered = told(beside.toString());
            due(of(set, (set >> 1 & 1) | (set >> 2 & 1) << 3, (set & 1) << 1 | (set >> 3 & 1) << 2), sheltered.lee(0, 1),
                    sheltered.lee(1, 0), sheltered.lee(2, 0));
        }
        due(0, told(calm + "shelter 1 1;shelter 0 2;shelter 2 0;").lee(0, 0));
        promise(33, "DAYS ahead of the last in which no WIND blows, as bits");
        for (int n : new int[] {1, 2, 13, 14}) {
            String head = "plain days " + n + " law 0 odds 0 wide 2 high 2;";
            WindSigned w = told(head);
            due(of((1 << n) - 1, n), w.lulls(), w.lull());
            w = told(head + "wind 0 1 at 0;");
            due(of((1 << n) - 2, n - 1), w.lulls(), w.lull());
            w = told(head + "wind 0 1 at " + (n - 1) + ";");
            due(of((1 << n - 1) - 1, n - 1), w.lulls(), w.lull());
            for (int day = 0; day < n; day++) {
                w.blows(0, 1, day);
            }
            due(of(0, 0), w.lulls(), w.lull());
        }
        promise(34, "the most such DAYS one behind the other");
        String head = "plain days 14 law 0 odds 0 wide 2 high 2;";
        due(of(7, 7, 6), told(head + "wind 0 1 at 6;").lull(), told(head + "wind 0 1 at 7;").lull(),
                told(head + "wind 0 1 at 6;wind 0 1 at 7;").lull());
        promise(35, "the greatest FORCE of a WIND of a DAY (0: none blows)");
        WindSigned w = told(head + "wind 0 1 at 0;wind 0 40 at 13;wind 1 39 at 13;");
        due(of(1, 0, 0, 40), w.force(0), w.force(1), w.force(12), w.force(13));
        w.blows(0, 2, 0);
        w.blows(0, 1, 0);
        due(2, w.force(0));
    }

    private static void trials() {
        promise(43, "the least FORCE (1 .. 40)");
        String head = "plain days 1 law 0 odds 0 wide 9 high 2;house 0 0;house 8 0;";
        for (int weight = 0; weight <= 30; weight++) {
            // From 4 one step is wanted, from 0 five, from 3 two.
            due(weight + 1, told(head + "thing weighs " + weight + " at 4 0 for 0;").blow(0, 1, 0, 1));
            due(weight + 3, told(head + "thing weighs " + weight + " at 3 0 for 0;").blow(0, 1, 0, 1));
            int five = weight + 12;
            due(five <= 40 ? five : -1, told(head + "thing weighs " + weight + " at 0 0 for 0;").blow(0, 1, 0, 1));
            // As near to both of them the first has it, if the wind does not move it.
            due(weight > 0 ? 1 : -1, told(head + "thing weighs " + weight + " at 4 0 for 0;").blow(0, 0, 0, 1));
        }
        promise(44, "the DAY and the DIRECTION (10 times and) with which it is least");
        // In day 0 it is sheltered; a wind of day 1 takes it down, out of the lee, and three steps are wanted then.
        WindSigned late = told("plain days 3 law 0 odds 0 wide 9 high 2;house 0 0;house 8 0;shelter 1 0;"
                + "thing weighs 5 at 2 0 for 0;wind 2 6 at 1;");
        due(of(11, -1, 11, 11), late.bring(0, 1), late.blow(0, 1, 0, 1), late.blow(0, 1, 1, 1), late.blow(0, 1, 2, 1));
        // The last day ahead of the last, down: in others it is sheltered from that.
        late = told("plain days 3 law 0 odds 0 wide 9 high 9;house 0 0;house 0 8;shelter 0 3;"
                + "thing weighs 5 at 0 4 for 0;wind 1 6 at 2;");
        due(of(22, 6, -1, -1), late.bring(0, 1), late.blow(0, 1, 2, 2), late.blow(0, 1, 1, 2), late.blow(0, 1, 0, 1));
        promise(45, "the WIND told without which most THINGS are RIGHT, if more than now");
        String lane = head + "thing weighs 0 at 4 0 for 0;";
        due(of(0, -1, -1), told(lane + "wind 1 1 at 0;").blame(), told(lane + "wind 3 1 at 0;").blame(),
                told(lane + "wind 1 1 at 1;").blame());
        // The last of nine.
        due(8, told(lane + "wind 3 1 at 9;".repeat(8) + "wind 1 1 at 0;").blame());
        promise(46, "the SHELTER told without which most THINGS are RIGHT, if more than now");
        String other = head + "thing weighs 0 at 4 0 for 1;wind 1 1 at 0;";
        StringBuilder seven = new StringBuilder(other);
        for (int x = 0; x < 7; x++) {
            seven.append("shelter ").append(x).append(" 1;");
        }
        due(of(7, 0, -1), told(seven + "shelter 3 0;").burden(), told(other + "shelter 5 0;").burden(),
                told(other + "shelter 5 0;shelter 3 0;").burden());
    }

    private static void guesses() {
        promise(47, "-2: a number is none such (asked last), not two each");
        for (int n = 0; n <= 60; n++) {
            WindSigned w = told(VALE);
            w.row(1, n % 4, n);
            for (int i = 1; i < n; i += 2) {
                w.write(1, i, 11);
            }
            due(n % 2 == 0 ? 31 : -2, w.weights(1, 0), "weights by " + n + " numbers");
            due(n % 2 == 0 ? 15 : -2, w.laws(1, 0), "laws by " + n + " numbers");
        }
        promise(51, "how many it leaves at worst (as now without)");
        WindSigned w = told(VALE);
        row(w, 0, 0, 2, 31);
        due(of(2, -1, 2), w.weights(0, 1), w.ask(0, 1), w.leaves(0, 1));
        row(w, 0, 0, 2, 43);
        due(of(7, 4, 5), w.weights(0, 1), w.ask(0, 1), w.leaves(0, 1));
        row(w, 0, 0, 0, 0);
        due(of(0, -1, 0), w.weights(0, 1), w.ask(0, 1), w.leaves(0, 1));
        promise(49, "the greatest, the least: one weight alone, 0 or 30");
        WindSigned ends = told("plain days 1 law 0 odds 0 wide 9 high 2;house 0 0;thing weighs 9 at 0 0 for 0;wind 1 1 at 0;");
        row(ends, 0, 0, 1, 10);
        due(of(1, 0, 0, -1, 1, 0), guesses(ends, 0, 0));
        row(ends, 0, 0, 1, 0);
        due(of(30, 1, 30, -1, 30, 15), guesses(ends, 0, 0));
        ends = told("plain days 1 law 0 odds 0 wide 9 high 2;house 0 0;thing weighs 9 at 0 0 for 0;wind 1 30 at 0;");
        row(ends, 0, 0, 1, 0);
        due(of(1, 30, 30, -1, 1, 0), guesses(ends, 0, 0));
        promise(52, "by which a THING, as told, lay so");
        // On its first day it lay where told by all laws, elsewhere by none.
        row(w, 0, 0, 0, 40);
        due(of(15, 0), w.laws(0, 1), w.laws(0, 0));
        promise(47, "-6: it has nothing, and a row of no numbers is something");
        due(of(-6, 0, 31), w.weights(3, 0), w.row(3, 3, 0), w.weights(3, 0));
    }

    private static void sharesAndGame() {
        promise(56, "above (what 0), below (1)");
        WindSigned w = told(FULL);
        long sum = 0;
        for (int shelter = 0; shelter < 8; shelter++) {
            due(0, w.share(shelter, 1) > 0 && 40320 % w.share(shelter, 1) == 0 ? 0 : 1, "the number below");
            sum += 40320L / w.share(shelter, 1) * w.share(shelter, 0);
        }
        due(40320L * (w.worth(255) - w.worth(0)), sum, "all shares together");
        promise(57, "1 neither builds, 2 the first one does, 4 the other one, 8 both");
        String none = "plain days 1 law 0 odds 0 wide 9 high 2;house 0 0;house 8 0;";
        due(of(1, 1), told(none).rests(0, 1), told(none).rests(1, 0));
        // Each keeps one thing from being blown to the other by building, whatever that one does.
        w = told("plain days 1 law 0 odds 0 wide 5 high 3;house 0 0;house 4 2;thing weighs 30 at 1 0 for 0;"
                + "thing weighs 0 at 3 2 for 1;wind 1 40 at 0;wind 3 30 at 0;");
        due(of(8, 8), w.rests(0, 1), w.rests(1, 0));
        due(of(5, 7, 0, 2), w.gets(0, 1, 0, 0), w.gets(0, 1, 1, 0), w.gets(0, 1, 0, 1), w.gets(0, 1, 1, 1));
        due(of(5, 7, 0, 2), w.gets(1, 0, 0, 0), w.gets(1, 0, 1, 0), w.gets(1, 0, 0, 1), w.gets(1, 0, 1, 1));
        promise(58, "below 0, too");
        due(of(0, -3, 0, -3), told(none).gets(0, 1, 0, 0), told(none).gets(0, 1, 1, 0), told(none).gets(0, 1, 0, 1),
                told(none).gets(0, 1, 1, 1));
    }

    // Promises 61 to 64, 67: acts.

    private static void actsFull() {
        promise(61, "-5: there were 30 acts; -2 is asked ahead of it");
        WindSigned w = told(SMALL);
        for (int i = 1; i <= 30; i++) {
            due(i % 2 == 0 ? 1 : 0, i % 2 == 0 ? w.blows(0, 1, 0) : w.brings(0, 0, 0), "act " + i);
            due(i, w.count(9), "count(9)");
        }
        refused(-5, w, () -> w.blows(0, 1, 0));
        refused(-5, w, () -> w.blows(3, 40, 0));
        refused(-2, w, () -> w.blows(4, 1, 0));
        refused(-2, w, () -> w.blows(0, 0, 0));
        refused(-2, w, () -> w.blows(0, 41, 0));
        refused(-2, w, () -> w.blows(0, 1, 1));
        promise(62, "-2, -5 likewise");
        WindSigned v = told(SMALL);
        for (int i = 1; i <= 30; i++) {
            v.brings(0, 1, 0);
        }
        refused(-5, v, () -> v.brings(0, 0, 0));
        refused(-2, v, () -> v.brings(1, 0, 0));
        refused(-2, v, () -> v.brings(0, 20, 0));
        refused(-2, v, () -> v.brings(0, 2, 0));
        refused(-2, v, () -> v.brings(0, -1, 0));
        refused(-2, v, () -> v.brings(0, 0, 1));
        promise(61, "taken back, there is room again");
        due(of(29, 0, 30, -5), v.undo(), v.brings(0, 0, 0), v.count(9), v.brings(0, 0, 0));
        due(of(30, 1, 1), v.anew(), v.blows(0, 1, 0), v.count(9));
    }

    private static void actsTakenBack() {
        promise(63, "the latest act is taken back: how many there are");
        WindSigned w = told(VALE);
        List<Long> first = seen(w);
        w.blows(1, 40, 2);
        w.brings(0, 43, 0);
        due(of(1, 0, -5, -5, 0), w.undo(), w.undo(), w.undo(), w.undo(), w.count(9));
        if (!first.equals(seen(w))) {
            fail("all acts taken back, it is as told");
        }
        WindSigned one = told(VALE);
        one.blows(1, 40, 2);
        List<Long> behindOne = seen(one);
        one.brings(0, 43, 0);
        due(1, one.undo());
        if (!behindOne.equals(seen(one))) {
            fail("the latest is taken back alone");
        }
        promise(64, "all are: how many there were");
        for (int n : new int[] {0, 1, 29, 30}) {
            WindSigned many = told(VALE);
            for (int i = 0; i < n; i++) {
                many.blows(i % 4, 40, i % 4);
            }
            due(of(n, 0, 0, -5), many.anew(), many.anew(), many.count(9), many.undo());
            if (!first.equals(seen(many))) {
                fail("all acts taken back, it is as told");
            }
        }
        promise(63, "-2: there is no PLAIN; -5: there is none");
        due(of(-2, -2, -5, 0), new WindSigned().undo(), new WindSigned().anew(), told(BARE).undo(), told(BARE).anew());
        // Telling another plain, there is none.
        WindSigned again = told(VALE);
        again.blows(1, 40, 2);
        feed(again, VALE);
        due(of(12, 0, -5), again.plain(), again.count(9), again.undo());
    }

    private static void rating() {
        promise(67, "what a THING weighs is n (0 .. 30) from now on: what it was");
        WindSigned w = told(VALE);
        due(of(3, 0, 30, 3), w.rate(0, 0), w.rate(0, 30), w.rate(0, 3), w.rate(0, 3));
        due(of(0, 15), w.rate(2, 15), w.thing(2, 0));
        promise(67, "-5: there are acts that are not taken back; -2 is asked ahead of it");
        w.blows(0, 1, 0);
        refused(-5, w, () -> w.rate(0, 3));
        refused(-5, w, () -> w.rate(0, 4));
        refused(-2, w, () -> w.rate(0, 31));
        refused(-2, w, () -> w.rate(0, -1));
        refused(-2, w, () -> w.rate(3, 3));
        w.undo();
        due(of(3, 4), w.rate(0, 4), w.thing(0, 0));
        WindSigned brought = told(VALE);
        brought.brings(0, 0, 0);
        due(of(-5, 1, 3), brought.rate(0, 0), brought.anew(), brought.rate(0, 0));
        // It stays so when acts are taken back, goes with images, and ends with another plain.
        w.blows(0, 1, 0);
        due(of(1, 4, 0, 4, 9), w.anew(), w.thing(0, 0), w.image(0), w.rate(0, 9), w.thing(0, 0));
        due(of(0, 4), w.back(0), w.thing(0, 0));
        feed(w, VALE);
        due(of(12, 3), w.plain(), w.thing(0, 0));
    }

    // Promises 68 to 73.

    private static void counting() {
        promise(68, "NONE for others");
        for (String told : List.of("", BARE, VALE, FULL)) {
            WindSigned w = told(told);
            due(of(-1, -1, -1, -1), w.count(-1), w.count(13), w.count(LEAST), w.count(GREATEST));
        }
        promise(68, "0 days .. 12 SLOTS that have a row");
        WindSigned w = told(FULL);
        int[] counts = {14, 3, 10, 9, 9, 6, 8, 6, 9, 0, 30, 0, 0};
        for (int what = 0; what <= 12; what++) {
            due(counts[what], w.count(what), "count(" + what + ")");
            due(0, new WindSigned().count(what), "count(" + what + ") of a new object");
        }
        for (int slot = 0; slot < 4; slot++) {
            due(of(0, slot + 1), w.row(slot, 3 - slot, slot == 0 ? 60 : 0), w.count(12));
        }
        due(of(0, 4), w.row(0, 0, 0), w.count(12));
        for (int i = 1; i <= 30; i++) {
            w.blows(0, 1, 0);
            due(i, w.count(9), "count(9)");
        }
        w.anew();
        for (int i = 1; i <= 35; i++) {
            w.feed(0, 0, 0, 0, 0);
            due(20 * i, w.count(11), "count(11)");
        }
    }

    private static void images() {
        promise(69, "IMAGE k (0 .. 2) keeps the PLAIN, and acts");
        WindSigned w = told(VALE);
        w.rate(0, 7);
        w.blows(1, 40, 2);
        w.brings(1, 0, 3);
        List<Long> kept = seen(w);
        due(0, w.image(2));
        w.undo();
        w.blows(3, 9, 0);
        due(of(0, 2, 1), w.image(1), w.count(9), w.undo());
        due(0, w.back(2));
        if (!kept.equals(seen(w))) {
            fail("it is as image 2 has it");
        }
        promise(70, "-6: it has nothing");
        refused(-6, w, () -> w.back(0));
        due(of(0, 0), w.image(0), w.back(0));
        promise(69, "an image keeps 30 acts, and no PLAIN as well");
        WindSigned v = told(VALE);
        for (int i = 0; i < 30; i++) {
            v.blows(i % 4, 1 + i, i % 4);
        }
        List<Long> full = seen(v);
        due(of(0, 30, 0, 30, -5), v.image(0), v.anew(), v.back(0), v.count(9), v.blows(0, 1, 0));
        if (!full.equals(seen(v))) {
            fail("it is as image 0 has it");
        }
        WindSigned empty = new WindSigned();
        due(of(0, 0, 0), empty.image(1), empty.back(1), empty.count(10));
        feed(empty, VALE);
        due(of(12, 0, -2, 0, -2), empty.plain(), empty.back(1), empty.heir(), empty.count(10), empty.undo());
        promise(69, "what has been kept is kept in place of what was");
        WindSigned u = told(VALE);
        due(of(0, 4, 0, 1, 0), u.image(0), u.blows(0, 1, 0), u.image(0), u.anew(), u.image(1));
        due(of(0, 1, 0, 0, -6), u.back(0), u.count(9), u.back(1), u.count(9), u.back(2));
        promise(70, "TAPE and SLOTS are not the PLAIN's");
        feed(u, "x");
        row(u, 0, 0, 0, 11);
        due(of(0, 1, 1, 31), u.back(0), u.count(11), u.count(12), u.weights(0, 0));
        due(of(-4, 1, 0, 1, 0), u.plain(), u.fault(0), u.back(1), u.fault(0), u.fault(1));
    }

    private static WindSigned withRows() {
        WindSigned w = told(VALE);
        row(w, 0, 0, 0, 11);
        row(w, 1, 0, 0, 11, 1, 11);
        row(w, 2, 1, 0, 11);
        return w;
    }

    private static void rows() {
        promise(71, "a row of n numbers of a WIDTH, all 0 (in place of another one): 0");
        for (int slot = 0; slot < 4; slot++) {
            for (int width = 0; width < 4; width++) {
                for (int n : new int[] {0, 1, 2, 59, 60}) {
                    WindSigned w = withRows();
                    due(of(0, -7, -7), w.row(slot, width, n), w.write(slot, n, 0), w.write(slot, -1, 0));
                    due(n > 0 ? 0 : -7, w.write(slot, n - 1, 0), "write of the last");
                    // Day 0 in cell 0: there thing 0 did not lie.
                    due(n % 2 == 1 ? -2 : n == 0 ? 31 : 0, w.weights(slot, 0), "weights by " + n + " numbers");
                }
            }
        }
        // All 0, whatever was there: on day 0 the thing lay in cell 0, and not in another one on any day.
        WindSigned zero = told("plain days 1 law 0 odds 5 wide 9 high 2;house 0 0;thing weighs 9 at 0 0 for 0;"
                + "wind 1 40 at 0;");
        for (int width = 0; width < 4; width++) {
            row(zero, 0, 3 - width, -1, -1, -1, -1);
            due(of(-2, 0, 31, 15), zero.weights(0, 0), zero.row(0, width, 60), zero.weights(0, 0), zero.laws(0, 0));
        }
        promise(71, "-2: there is no such SLOT or WIDTH (0 .. 3), or n is above 60");
        int[][] unknown = {{-1, 0, 2}, {4, 0, 2}, {0, -1, 2}, {0, 4, 2}, {0, 0, 61}, {LEAST, 0, 2}, {GREATEST, 0, 2},
            {0, LEAST, 2}, {0, GREATEST, 2}, {0, 0, GREATEST}, {3, 0, 61}, {-1, 0, -1}, {4, 0, -1}, {0, 4, -1}, {0, -1, -1}};
        for (int[] one : unknown) {
            WindSigned w = withRows();
            refused(-2, w, () -> w.row(one[0], one[1], one[2]));
        }
        promise(71, "-3, and the SLOT stays: n is below 0");
        for (int slot = 0; slot < 4; slot++) {
            for (int n : new int[] {-1, -2, -61, LEAST}) {
                WindSigned w = withRows();
                int which = slot;
                refused(-3, w, () -> w.row(which, 3, n));
                due(slot == 3 ? -6 : 0, w.write(slot, 0, 0), "the row is there as it was");
            }
        }
    }

    private static void writing() {
        promise(72, "-2: there is no such SLOT; -6: it has nothing; -7: there is no such number");
        int[][] wrong = {{-1, 0, -2}, {4, 0, -2}, {LEAST, 0, -2}, {GREATEST, 0, -2}, {-1, -1, -2}, {4, 99, -2}, {3, 0, -6},
            {3, -1, -6}, {3, 60, -6}, {0, 2, -7}, {0, -1, -7}, {1, 4, -7}, {0, LEAST, -7}, {0, GREATEST, -7}, {2, 2, -7}};
        for (int[] one : wrong) {
            WindSigned w = withRows();
            refused(one[2], w, () -> w.write(one[0], one[1], 12));
        }
        promise(72, "number i of the SLOT's row is v, cut to its WIDTH");
        for (int width = 0; width < 4; width++) {
            int bits = 8 << width;
            WindSigned w = told(VALE);
            w.row(0, width, 2);
            // 11 in the low bytes; bits above the width are cut off, the highest bit within it is not.
            for (int bit = 7; bit < 64; bit++) {
                due(0, w.write(0, 1, 11 | 1L << bit), "write");
                due(bit >= bits ? 31 : -2, w.weights(0, 0), "bit " + bit + " of width " + width);
            }
            // All bits: -1, GONE, whatever is cut.
            due(of(0, 0), w.write(0, 1, -1), w.weights(0, 0));
            due(of(0, 0), w.write(0, 1, -1L >>> 64 - bits), w.weights(0, 0));
            due(of(0, -2), w.write(0, 1, -2), w.weights(0, 0));
            due(of(0, -2), w.write(0, 1, Long.MAX_VALUE - 1), w.weights(0, 0));
            due(of(0, width == 3 ? -2 : 0), w.write(0, 1, Long.MIN_VALUE), w.weights(0, 0));
            due(of(0, 31), w.write(0, 1, 11), w.weights(0, 0));
            // A day is cut likewise.
            due(of(0, width == 3 ? -2 : 31), w.write(0, 0, width == 3 ? 1L << 63 : 1L << bits), w.weights(0, 0));
        }
        // The width is the row's, not the slot's.
        WindSigned w = told(VALE);
        due(of(0, 0, -2, 0, 0, 31), w.row(0, 3, 2), w.write(0, 1, 256 + 11), w.weights(0, 0), w.row(0, 0, 2),
                w.write(0, 1, 256 + 11), w.weights(0, 0));
        // The last of sixty.
        due(of(0, 0, -7, 0), w.row(0, 3, 60), w.write(0, 59, 11), w.write(0, 60, 11), w.weights(0, 0));
    }

    private static void pasting() {
        promise(73, "-2: there is no such SLOT; -6: one has nothing; -8: not of one WIDTH; -7: beyond, below 0");
        int[][] wrong = {
            {-1, 0, 0, 0, 1, -2}, {4, 0, 0, 0, 1, -2}, {0, 0, -1, 0, 1, -2}, {0, 0, 4, 0, 1, -2}, {LEAST, 0, 0, 0, 1, -2},
            {0, 0, GREATEST, 0, 1, -2}, {3, 0, 4, 0, 1, -2}, {4, 0, 3, 0, 1, -2}, {4, -1, 2, 0, -1, -2},
            {3, 0, 0, 0, 1, -6}, {0, 0, 3, 0, 1, -6}, {3, 0, 3, 0, 0, -6}, {3, -1, 2, 9, -1, -6}, {2, 0, 3, -1, 1, -6},
            {0, 0, 2, 0, 1, -8}, {2, 0, 0, 0, 1, -8}, {0, 0, 2, 0, 0, -8}, {0, -1, 2, 0, 1, -8}, {0, 0, 2, 9, 9, -8},
            {1, 0, 0, 0, 3, -7}, {0, 0, 1, 0, 3, -7}, {1, 3, 0, 0, 2, -7}, {1, 0, 0, 1, 2, -7}, {1, 5, 0, 0, 0, -7},
            {1, 0, 0, 3, 0, -7}, {1, -1, 0, 0, 1, -7}, {1, 0, 0, -1, 1, -7}, {1, 0, 0, 0, -1, -7}, {1, -1, 0, 0, 0, -7},
            {1, LEAST, 0, 0, 1, -7}, {1, GREATEST, 0, 0, 1, -7}, {1, 0, 0, LEAST, 1, -7}, {1, 0, 0, GREATEST, 1, -7},
            {1, 0, 0, 0, LEAST, -7}, {1, 0, 0, 0, GREATEST, -7}, {1, 1, 0, 1, GREATEST, -7}, {1, 0, 1, 1, 4, -7},
            {1, 1, 1, 0, 4, -7}, {1, GREATEST, 0, GREATEST, GREATEST, -7}, {1, -1, 1, 0, 2, -7},
        };
        for (int[] one : wrong) {
            WindSigned w = withRows();
            refused(one[5], w, () -> w.paste(one[0], one[1], one[2], one[3], one[4]));
        }
        promise(73, "0: none at all is put, at the end of a row, too");
        for (int[] one : new int[][] {{1, 0, 0, 0}, {1, 4, 0, 0}, {1, 0, 0, 2}, {1, 4, 0, 2}, {1, 4, 1, 4}}) {
            WindSigned w = withRows();
            refused(0, w, () -> w.paste(one[0], one[1], one[2], one[3], 0));
        }
        promise(73, "so many numbers are put, from one on, as they were");
        WindSigned w = withRows();
        row(w, 0, 0, 0, 12);
        due(of(0, 0, 31), w.weights(0, 0), w.paste(1, 2, 0, 0, 2), w.weights(0, 0));
        row(w, 0, 0, 0, 12);
        due(of(0, 31, 31), w.paste(1, 3, 0, 1, 1), w.weights(0, 0), w.weights(1, 0));
        // A whole row of sixty, of each width.
        for (int width = 0; width < 4; width++) {
            w.row(0, width, 60);
            w.row(3, width, 60);
            for (int i = 1; i < 60; i += 2) {
                w.write(0, i, 11);
            }
            due(of(0, 0, 31, -7), w.weights(3, 0), w.paste(0, 0, 3, 0, 60), w.weights(3, 0), w.paste(0, 0, 3, 0, 61));
        }
        promise(73, "or its own, as they were");
        // 0 11 1 13 becomes 0 0 11 1, and 0 11 1 13 becomes 11 1 13 13: read by what one more row says of each.
        for (int[] shift : new int[][] {{0, 1}, {1, 0}}) {
            WindSigned own = told(VALE);
            row(own, 0, 1, 10, 11, 12, 13);
            due(0, own.paste(0, shift[0], 0, shift[1], 3));
            int[] become = shift[1] == 1 ? new int[] {10, 10, 11, 12} : new int[] {11, 12, 13, 13};
            for (int i = 0; i < 4; i++) {
                row(own, 1, 1, 0, 0);
                due(0, own.paste(0, i, 1, 1, 1));
                due(become[i] == 11 ? 31 : 0, own.weights(1, 0), "number " + i + " behind it");
            }
        }
    }

    private static void asBits() {
        String six = "plain days 2 law 1 odds 5 wide 9 high 9;house 0 0;house 8 8;" + "thing weighs 0 at 4 4 for 1;".repeat(6);
        WindSigned w = told(six + "shelter 4 4;" + "wind 1 40 at 0;".repeat(8) + "wind 1 40 at 2;");
        promise(12, "THINGS as bits: none, and all six");
        due(of(63, 0), w.moved(0), w.moved(1));
        due(of(0, 63, 63, 0, 63, 63), w.signed(0), w.signed(1), w.signed(2), w.gone(0), w.gone(1), w.gone(2));
        due(of(63, 0, 63, 0), w.here(44, 0), w.here(44, 1), w.under(0), w.under(1));
        due(of(63, 0, 0, 0), w.has(0, 0), w.has(1, 0), w.has(0, 1), w.has(1, 1));
        due(of(0, 0, 63, 63), w.right(0), w.right(1), told(six.replace("for 1", "for 0")).right(0),
                told(six.replace("for 1", "for 0")).right(2));
        due(of(63, 63, 0), w.drawn(8, 1), w.by(0), w.by(1));
        promise(37, "WINDS told, as bits: none, the first, the last, all nine");
        due(of(1, 63, 0, 0, 0x1fe), w.movers(5), w.moves(0), w.moves(1), w.moves(8), w.idle());
        due(of(0x1ff, 0), told(BARE + "wind 0 40 at 0;".repeat(9)).idle(), told(BARE).idle());
        WindSigned last = told(six + "wind 1 1 at 5;".repeat(8) + "wind 1 1 at 1;");
        due(of(0x100, 63, 0xff), last.movers(0), last.moves(8), last.idle());
        WindSigned all = told(six.replace("law 1", "law 2") + "wind 1 1 at 1;".repeat(9));
        due(of(0x1ff, 63, 0, 9), all.movers(5), all.moves(8), all.idle(), all.worn(5));
        promise(65, "WINDS told that blow, as bits: none, all nine");
        due(of(0, 0x1ff), told(six.replace("odds 5", "odds 0") + "wind 1 1 at 1;".repeat(9)).drawn(3, 0),
                told(six.replace("odds 5", "odds 10") + "wind 1 1 at 1;".repeat(9)).drawn(3, 0));
    }

    private static void seeds() {
        promise(66, "of n (1 .. 20) such from seeds, the seed and 1, ..");
        WindSigned w = told(VALE);
        for (int seed : new int[] {0, 1, 1234, 1999999981}) {
            for (int thing = 0; thing < 3; thing++) {
                int years = 0;
                for (int n = 1; n <= 20; n++) {
                    years += w.drawn(seed + n - 1, 1) >> thing & 1;
                    if (n == 1 || n == 2 || n >= 19) {
                        due(years, w.luck(seed, n, thing), "luck(" + seed + ", " + n + ", " + thing + ")");
                    }
                }
            }
        }
        // The last seed is the last that may be named; the ones behind it are drawn from as well.
        due(of(-2, 0), w.luck(2000000001, 1, 0), w.luck(2000000000, 20, 0) < 0 ? 1 : 0);
        due(of(20, 0), told(VALE.replace("odds 5", "odds 10")).luck(2000000000, 20, 0),
                told(VALE.replace("odds 5", "odds 0")).luck(2000000000, 20, 0));
    }

    /** A question that tries what would be otherwise leaves all as it is. */
    private static void questionsChangeNothing() {
        says("promises 6 to 60, 65, 66, 68: questions change nothing");
        for (String told : List.of(VALE, SMALL)) {
            WindSigned w = told(told);
            w.blows(1, 40, 0);
            row(w, 0, 0, 0, 11);
            refused(w.keep(0), w, () -> w.keep(0));
            refused(w.blow(0, 1, 0, 1), w, () -> w.blow(0, 1, 0, 1));
            refused(w.share(0, 0), w, () -> w.share(0, 0));
            WindSigned v = told(told);
            v.brings(0, 1, 0);
            row(v, 0, 0, 0, 11);
            refused(v.bring(0, 1), v, () -> v.bring(0, 1));
            refused(v.ask(0, 0), v, () -> v.ask(0, 0));
            refused(v.gets(0, 1, 1, 1), v, () -> v.gets(0, 1, 1, 1));
            WindSigned u = told(told);
            refused(u.by(3), u, () -> u.by(3));
            refused(u.luck(0, 20, 0), u, () -> u.luck(0, 20, 0));
            refused(u.chance(0, 0), u, () -> u.chance(0, 0));
        }
    }
}
