import java.math.BigInteger;
import java.util.ArrayList;
import java.util.Arrays;
import java.util.HashSet;
import java.util.List;
import java.util.Map;
import java.util.Set;
import java.util.TreeMap;

/**
 * The document told a second time, as plainly as may be and with the whole Java library, so that the
 * program can be held against it. It shares no code with the program and remembers no results.
 */
public final class Model {
    private static final int[] DX = {0, 1, 0, -1};
    private static final int[] DY = {-1, 0, 1, 0};

    /** A point of the plain; a thing that is gone has none (null). */
    private record Spot(int x, int y) {
        int told() {
            return 10 * x + y;
        }

        Spot beside(int direction) {
            return new Spot(x + DX[direction], y + DY[direction]);
        }

        int from(Spot other) {
            return Math.abs(x - other.x) + Math.abs(y - other.y);
        }
    }

    private record Thing(int weight, Spot spot, int house) { }

    private record Wind(int direction, int force, int day) { }

    private record Act(Wind wind, int thing, Spot spot, int day) { }

    /** What is told; lists are never changed once a world stands. */
    private record World(int lines, int days, int law, int odds, int wide, int high, List<Spot> houses,
            List<Spot> shelters, List<Thing> things, List<Wind> winds, List<Act> acts) {
        boolean has(Spot s) {
            return s.x >= 0 && s.x < wide && s.y >= 0 && s.y < high;
        }

        World withLaw(int other) {
            return new World(lines, days, other, odds, wide, high, houses, shelters, things, winds, acts);
        }

        World withShelters(List<Spot> other) {
            return new World(lines, days, law, odds, wide, high, houses, other, things, winds, acts);
        }

        World withThings(List<Thing> other) {
            return new World(lines, days, law, odds, wide, high, houses, shelters, other, winds, acts);
        }

        World withActs(List<Act> other) {
            return new World(lines, days, law, odds, wide, high, houses, shelters, things, winds, other);
        }

        /** A wind that does not blow stands at a day that never comes, so that the others keep their numbers. */
        World withWindsOnly(int set) {
            List<Wind> other = new ArrayList<>();
            for (int i = 0; i < winds.size(); i++) {
                Wind w = winds.get(i);
                other.add((set >> i & 1) == 1 ? w : new Wind(w.direction, w.force, 99));
            }
            return new World(lines, days, law, odds, wide, high, houses, shelters, things, other, acts);
        }

        World withAct(Act act) {
            List<Act> other = new ArrayList<>(acts);
            other.add(act);
            return withActs(other);
        }

        World withWeight(int thing, int weight) {
            List<Thing> other = new ArrayList<>(things);
            Thing t = other.get(thing);
            other.set(thing, new Thing(weight, t.spot, t.house));
            return withThings(other);
        }
    }

    private static final class Way {
        final List<Spot> spots = new ArrayList<>();
        final List<Integer> steps = new ArrayList<>();
        final Set<Integer> movers = new HashSet<>();

        Integer receivedDay() {
            for (int d = 0; d < steps.size(); d++) {
                if (steps.get(d) > 0) {
                    return d;
                }
            }
            return null;
        }

        int allSteps() {
            return steps.stream().mapToInt(i -> i).sum();
        }

        Spot last() {
            return spots.get(spots.size() - 1);
        }

        int cell(int day) {
            return spots.get(day) == null ? -1 : spots.get(day).told();
        }
    }

    private static final class Fault extends Exception {
        final int kind;
        final int place;

        Fault(int kind, int place) {
            this.kind = kind;
            this.place = place;
        }
    }

    private record Token(String text, int place) {
        boolean isNumber() {
            return text.matches("[0-9]+");
        }
    }

    private String tape = "";
    private World world = null;
    private Fault fault = null;
    private final World[] images = new World[3];
    private final boolean[] kept = new boolean[3];
    private final List<BigInteger[]> rows = new ArrayList<>(Arrays.asList(null, null, null, null));
    private final int[] widths = new int[4];

    // ---- the text

    public int feed(int a, int b, int c, int d, int e) {
        if (tape.length() > 680) {
            return -1;
        }
        StringBuilder more = new StringBuilder(tape);
        for (int n : new int[] {a, b, c, d, e}) {
            for (int shift = 24; shift >= 0; shift -= 8) {
                more.append((char) (n >>> shift & 255));
            }
        }
        tape = more.toString();
        return tape.length();
    }

    public int end(int n) {
        if (n < 0 || n > tape.length()) {
            return -1;
        }
        tape = tape.substring(0, n);
        return n;
    }

    private static List<Token> tokensOf(String text) {
        List<Token> tokens = new ArrayList<>();
        java.util.regex.Matcher m = java.util.regex.Pattern.compile("[a-z]+|[0-9]+|[^ \\n]", java.util.regex.Pattern.DOTALL)
                .matcher(text);
        while (m.find()) {
            tokens.add(new Token(m.group(), m.start()));
        }
        tokens.add(new Token("", text.length()));
        return tokens;
    }

    private static int numberIn(Token t, int low, int high) throws Fault {
        if (!t.isNumber()) {
            throw new Fault(1, t.place);
        }
        BigInteger v = new BigInteger(t.text);
        if (v.compareTo(BigInteger.valueOf(low)) < 0 || v.compareTo(BigInteger.valueOf(high)) > 0) {
            throw new Fault(2, t.place);
        }
        return v.intValue();
    }

    private static void sayIs(Token t, String text) throws Fault {
        if (!t.text.equals(text)) {
            throw new Fault(1, t.place);
        }
    }

    private static World read(String text) throws Fault {
        List<Token> ts = tokensOf(text);
        int i = 0;
        int lines = 0;
        int days = 0, law = 0, odds = 0, wide = 0, high = 0;
        List<Spot> houses = new ArrayList<>();
        List<Spot> shelters = new ArrayList<>();
        List<Thing> things = new ArrayList<>();
        List<Wind> winds = new ArrayList<>();
        while (i < ts.size() - 1) {
            Token head = ts.get(i++);
            if (lines == 0) {
                sayIs(head, "plain");
                sayIs(ts.get(i++), "days");
                days = numberIn(ts.get(i++), 1, 14);
                sayIs(ts.get(i++), "law");
                law = numberIn(ts.get(i++), 0, 3);
                sayIs(ts.get(i++), "odds");
                odds = numberIn(ts.get(i++), 0, 10);
                sayIs(ts.get(i++), "wide");
                wide = numberIn(ts.get(i++), 2, 9);
                sayIs(ts.get(i++), "high");
                high = numberIn(ts.get(i++), 2, 9);
            } else if (head.text.equals("house") || head.text.equals("shelter")) {
                List<Spot> list = head.text.equals("house") ? houses : shelters;
                if (list.size() == (list == houses ? 6 : 8)) {
                    throw new Fault(3, head.place);
                }
                int x = numberIn(ts.get(i++), 0, wide - 1);
                int y = numberIn(ts.get(i++), 0, high - 1);
                if (list.contains(new Spot(x, y))) {
                    throw new Fault(2, ts.get(i - 1).place);
                }
                list.add(new Spot(x, y));
            } else if (head.text.equals("thing")) {
                if (things.size() == 6) {
                    throw new Fault(3, head.place);
                }
                sayIs(ts.get(i++), "weighs");
                int weight = numberIn(ts.get(i++), 0, 30);
                sayIs(ts.get(i++), "at");
                int x = numberIn(ts.get(i++), 0, wide - 1);
                int y = numberIn(ts.get(i++), 0, high - 1);
                sayIs(ts.get(i++), "for");
                things.add(new Thing(weight, new Spot(x, y), numberIn(ts.get(i++), 0, houses.size() - 1)));
            } else if (head.text.equals("wind")) {
                if (winds.size() == 9) {
                    throw new Fault(3, head.place);
                }
                int d = numberIn(ts.get(i++), 0, 3);
                int f = numberIn(ts.get(i++), 1, 40);
                sayIs(ts.get(i++), "at");
                winds.add(new Wind(d, f, numberIn(ts.get(i++), 0, 13)));
            } else {
                throw new Fault(1, head.place);
            }
            sayIs(ts.get(i++), ";");
            lines++;
        }
        return lines == 0 ? null
                : new World(lines, days, law, odds, wide, high, houses, shelters, things, winds, List.of());
    }

    public int plain() {
        try {
            world = read(tape);
            fault = null;
            tape = "";
            return world == null ? 0 : world.lines;
        } catch (Fault f) {
            fault = f;
            return -4;
        }
    }

    public int fault(int what) {
        if (what == 0) {
            return fault == null ? 0 : fault.kind;
        }
        return what == 1 && fault != null ? fault.place : -1;
    }

    // ---- the way of a thing

    private static Way way(World w, int thing) {
        Way way = new Way();
        Thing t = w.things.get(thing);
        Spot spot = t.spot;
        way.spots.add(spot);
        for (int day = 0; day < w.days; day++) {
            int all = 0;
            for (int i = 0; i < w.winds.size(); i++) {
                if (w.winds.get(i).day == day) {
                    List<Spot> trail = trail(w, t.weight, spot, w.winds.get(i));
                    if (!trail.isEmpty()) {
                        way.movers.add(i);
                        spot = trail.get(trail.size() - 1);
                    }
                    all += trail.size();
                }
            }
            for (Act a : w.acts) {
                if (a.wind != null && a.day == day) {
                    List<Spot> trail = trail(w, t.weight, spot, a.wind);
                    if (!trail.isEmpty()) {
                        spot = trail.get(trail.size() - 1);
                    }
                    all += trail.size();
                }
            }
            for (Act a : w.acts) {
                if (a.wind == null && a.day == day && a.thing == thing) {
                    spot = a.spot;
                }
            }
            way.steps.add(all);
            way.spots.add(spot);
        }
        return way;
    }

    /** The spots a wind takes a thing to, one a step; the last one is null, if it is gone by it. */
    private static List<Spot> trail(World w, int weight, Spot from, Wind wind) {
        List<Spot> trail = new ArrayList<>();
        if (from == null || wind.force <= weight) {
            return trail;
        }
        int dx = DX[wind.direction];
        int dy = DY[wind.direction];
        if (w.shelters.contains(new Spot(from.x - dx, from.y - dy))) {
            return trail;
        }
        int left = 1 + (int) Math.floor((wind.force - weight) / 3.0);
        Spot here = from;
        while (left-- > 0) {
            Spot next = new Spot(here.x + dx, here.y + dy);
            if (!w.has(next)) {
                if (w.law == 0) {
                    return trail;
                }
                if (w.law == 1) {
                    trail.add(null);
                    return trail;
                }
                if (w.law == 2) {
                    next = new Spot(Math.floorMod(next.x, w.wide), Math.floorMod(next.y, w.high));
                } else {
                    dx = -dx;
                    dy = -dy;
                    next = new Spot(here.x + dx, here.y + dy);
                }
            }
            if (w.shelters.contains(next)) {
                return trail;
            }
            trail.add(next);
            here = next;
        }
        return trail;
    }

    private static int hadBy(World w, Spot s) {
        if (s == null) {
            return -1;
        }
        Map<Integer, Integer> first = new TreeMap<>();
        for (int h = 0; h < w.houses.size(); h++) {
            first.putIfAbsent(w.houses.get(h).from(s), h);
        }
        return first.isEmpty() ? -1 : first.values().iterator().next();
    }

    private static boolean rightAt(World w, int thing, Spot s) {
        return s != null && hadBy(w, s) == w.things.get(thing).house;
    }

    private static int rightLast(World w) {
        int bits = 0;
        for (int t = 0; t < w.things.size(); t++) {
            if (rightAt(w, t, way(w, t).last())) {
                bits += 1 << t;
            }
        }
        return bits;
    }

    // ---- what there is

    private boolean noThing(int t) {
        return world == null || t < 0 || t >= world.things.size();
    }

    private boolean noHouse(int h) {
        return world == null || h < 0 || h >= world.houses.size();
    }

    private boolean noDay(int d) {
        return world == null || d < 0 || d > world.days;
    }

    private boolean noEarlyDay(int d) {
        return noDay(d) || d == world.days;
    }

    private boolean noCell(int c) {
        return world == null || c < 0 || c > 99 || !world.has(new Spot(c / 10, c % 10));
    }

    private interface Test {
        boolean holds(int thing);
    }

    private int thingsThat(Test test) {
        int bits = 0;
        for (int t = 0; t < world.things.size(); t++) {
            if (test.holds(t)) {
                bits |= 1 << t;
            }
        }
        return bits;
    }

    private Way way(int thing) {
        return way(world, thing);
    }

    public int house(int h) {
        return noHouse(h) ? -2 : world.houses.get(h).told();
    }

    public int shelter(int s) {
        return world == null || s < 0 || s >= world.shelters.size() ? -2 : world.shelters.get(s).told();
    }

    public int thing(int t, int what) {
        if (noThing(t) || what < 0 || what > 2) {
            return -2;
        }
        Thing it = world.things.get(t);
        return what == 0 ? it.weight : what == 1 ? it.spot.told() : it.house;
    }

    public int wind(int w, int what) {
        if (world == null || w < 0 || w >= world.winds.size() || what < 0 || what > 2) {
            return -2;
        }
        Wind it = world.winds.get(w);
        return what == 0 ? it.direction : what == 1 ? it.force : it.day;
    }

    public int at(int t, int day) {
        return noThing(t) || noDay(day) ? -2 : way(t).cell(day);
    }

    public int here(int cell, int day) {
        return noCell(cell) || noDay(day) ? -2 : thingsThat(t -> way(t).cell(day) == cell);
    }

    public int moved(int day) {
        return noEarlyDay(day) ? -2 : thingsThat(t -> way(t).steps.get(day) > 0);
    }

    public int steps(int t, int day) {
        return noThing(t) || noEarlyDay(day) ? -2 : way(t).steps.get(day);
    }

    public int worn(int t) {
        return noThing(t) ? -2 : way(t).allSteps();
    }

    public int received(int t) {
        if (noThing(t)) {
            return -2;
        }
        Integer day = way(t).receivedDay();
        return day == null ? -1 : day;
    }

    public int signed(int day) {
        if (noDay(day)) {
            return -2;
        }
        return thingsThat(t -> way(t).steps.subList(0, day).stream().anyMatch(n -> n > 0));
    }

    public int waits(int t) {
        if (noThing(t)) {
            return -2;
        }
        return (int) way(t).spots.stream().filter(s -> world.things.get(t).spot.equals(s)).count();
    }

    public int heir() {
        if (world == null) {
            return -2;
        }
        int best = -1;
        for (int t = world.things.size() - 1; t >= 0; t--) {
            if (best < 0 || waits(t) >= waits(best)) {
                best = t;
            }
        }
        return best;
    }

    public int gone(int day) {
        return noDay(day) ? -2 : thingsThat(t -> way(t).spots.get(day) == null);
    }

    public int had(int t, int day) {
        return noThing(t) || noDay(day) ? -2 : hadBy(world, way(t).spots.get(day));
    }

    public int has(int h, int day) {
        return noHouse(h) || noDay(day) ? -2 : thingsThat(t -> had(t, day) == h);
    }

    public int right(int day) {
        return noDay(day) ? -2 : thingsThat(t -> rightAt(world, t, way(t).spots.get(day)));
    }

    public int rich(int day) {
        if (noDay(day)) {
            return -2;
        }
        int best = -1;
        for (int h = world.houses.size() - 1; h >= 0; h--) {
            if (best < 0 || Integer.bitCount(has(h, day)) >= Integer.bitCount(has(best, day))) {
                best = h;
            }
        }
        return best;
    }

    public int home(int t) {
        if (noThing(t)) {
            return -2;
        }
        for (int d = 0; d <= world.days; d++) {
            if ((right(d) >> t & 1) == 1) {
                return d;
            }
        }
        return -1;
    }

    public int far(int t) {
        if (noThing(t)) {
            return -2;
        }
        return way(t).spots.stream().filter(s -> s != null).mapToInt(s -> s.from(world.things.get(t).spot)).max()
                .getAsInt();
    }

    public int apart(int t, int u, int day) {
        if (noThing(t) || noThing(u) || noDay(day)) {
            return -2;
        }
        Spot a = way(t).spots.get(day);
        Spot b = way(u).spots.get(day);
        return a == null || b == null ? -1 : a.from(b);
    }

    public int meet(int t, int u) {
        if (noThing(t) || noThing(u)) {
            return -2;
        }
        for (int d = 0; d <= world.days; d++) {
            if (apart(t, u, d) == 0) {
                return d;
            }
        }
        return -1;
    }

    public int heap(int day) {
        if (noDay(day)) {
            return -2;
        }
        int most = 0;
        for (int x = 0; x < world.wide; x++) {
            for (int y = 0; y < world.high; y++) {
                most = Math.max(most, Integer.bitCount(here(10 * x + y, day)));
            }
        }
        return most;
    }

    public int under(int day) {
        return noDay(day) ? -2 : thingsThat(t -> world.shelters.contains(way(t).spots.get(day)));
    }

    public int edge(int day) {
        return noDay(day) ? -2 : thingsThat(t -> {
            Spot s = way(t).spots.get(day);
            return s != null && (s.x == 0 || s.y == 0 || s.x == world.wide - 1 || s.y == world.high - 1);
        });
    }

    public int mostly(int t) {
        if (noThing(t)) {
            return -2;
        }
        int[] days = new int[world.houses.size()];
        for (int d = 0; d <= world.days; d++) {
            if (had(t, d) >= 0) {
                days[had(t, d)]++;
            }
        }
        int most = Arrays.stream(days).max().orElse(0);
        for (int h = 0; h < days.length && most > 0; h++) {
            if (days[h] == most) {
                return h;
            }
        }
        return -1;
    }

    public int lee(int t, int day) {
        if (noThing(t) || noDay(day)) {
            return -2;
        }
        Spot s = way(t).spots.get(day);
        int bits = 0;
        for (int d = 0; d < 4 && s != null; d++) {
            bits += world.shelters.contains(s.beside((d + 2) % 4)) ? 1 << d : 0;
        }
        return bits;
    }

    private List<Wind> windsOf(int day) {
        List<Wind> list = new ArrayList<>();
        world.winds.stream().filter(w -> w.day == day).forEach(list::add);
        world.acts.stream().filter(a -> a.wind != null && a.day == day).forEach(a -> list.add(a.wind));
        return list;
    }

    public int lulls() {
        if (world == null) {
            return -2;
        }
        int bits = 0;
        for (int d = 0; d < world.days; d++) {
            bits += windsOf(d).isEmpty() ? 1 << d : 0;
        }
        return bits;
    }

    public int lull() {
        if (world == null) {
            return -2;
        }
        String s = new StringBuilder(Integer.toBinaryString(lulls())).reverse().toString();
        return Arrays.stream(s.split("0")).mapToInt(String::length).max().orElse(0);
    }

    public int force(int day) {
        return noEarlyDay(day) ? -2 : windsOf(day).stream().mapToInt(Wind::force).max().orElse(0);
    }

    public int gale() {
        if (world == null) {
            return -2;
        }
        int best = -1;
        for (int d = world.days - 1; d >= 0; d--) {
            int n = Integer.bitCount(moved(d));
            if (n > 0 && (best < 0 || n >= Integer.bitCount(moved(best)))) {
                best = d;
            }
        }
        return best;
    }

    public int movers(int t) {
        return noThing(t) ? -2 : way(t).movers.stream().mapToInt(i -> 1 << i).sum();
    }

    public int moves(int w) {
        return world == null || w < 0 || w >= world.winds.size() ? -2 : thingsThat(t -> way(t).movers.contains(w));
    }

    public int idle() {
        if (world == null) {
            return -2;
        }
        int bits = 0;
        for (int w = 0; w < world.winds.size(); w++) {
            bits += moves(w) == 0 ? 1 << w : 0;
        }
        return bits;
    }

    public int strewn() {
        if (world == null) {
            return -2;
        }
        Set<Spot> all = new HashSet<>();
        for (int t = 0; t < world.things.size(); t++) {
            all.addAll(way(t).spots);
        }
        all.remove(null);
        return all.size();
    }

    // ---- otherwise

    private int bestKeep(int t) {
        int best = -1;
        for (int set = 15; set >= 0; set--) {
            List<Spot> more = new ArrayList<>(world.shelters);
            boolean may = true;
            for (int d = 0; d < 4; d++) {
                if ((set >> d & 1) == 1) {
                    Spot s = world.things.get(t).spot.beside(d);
                    may &= world.has(s) && !world.shelters.contains(s);
                    more.add(s);
                }
            }
            if (may && way(world.withShelters(more), t).receivedDay() == null
                    && (best < 0 || Integer.bitCount(set) <= Integer.bitCount(best))) {
                best = set;
            }
        }
        return best;
    }

    public int keep(int t) {
        return noThing(t) ? -2 : bestKeep(t) < 0 ? -1 : Integer.bitCount(bestKeep(t));
    }

    public int keeps(int t) {
        return noThing(t) ? -2 : bestKeep(t);
    }

    public int blow(int t, int h, int day, int direction) {
        if (noThing(t) || noHouse(h) || noEarlyDay(day) || direction < 0 || direction > 3) {
            return -2;
        }
        for (int f = 1; f <= 40; f++) {
            World w = world.withAct(new Act(new Wind(direction, f, day), -1, null, day));
            if (hadBy(w, way(w, t).last()) == h) {
                return f;
            }
        }
        return -1;
    }

    public int bring(int t, int h) {
        if (noThing(t) || noHouse(h)) {
            return -2;
        }
        int best = -1;
        int least = 41;
        for (int d = 0; d < world.days; d++) {
            for (int direction = 0; direction < 4; direction++) {
                int f = blow(t, h, d, direction);
                if (f > 0 && f < least) {
                    least = f;
                    best = d * 10 + direction;
                }
            }
        }
        return best;
    }

    public int blame() {
        if (world == null) {
            return -2;
        }
        int best = -1;
        int most = Integer.bitCount(rightLast(world));
        for (int w = 0; w < world.winds.size(); w++) {
            int n = Integer.bitCount(rightLast(world.withWindsOnly(511 - (1 << w))));
            if (n > most) {
                most = n;
                best = w;
            }
        }
        return best;
    }

    public int burden() {
        if (world == null) {
            return -2;
        }
        int best = -1;
        int most = Integer.bitCount(rightLast(world));
        for (int s = 0; s < world.shelters.size(); s++) {
            List<Spot> less = new ArrayList<>(world.shelters);
            less.remove(s);
            int n = Integer.bitCount(rightLast(world.withShelters(less)));
            if (n > most) {
                most = n;
                best = s;
            }
        }
        return best;
    }

    private int refused(int slot, int t) {
        if (slot < 0 || slot > 3 || noThing(t)) {
            return -2;
        }
        BigInteger[] row = rows.get(slot);
        if (row == null) {
            return -6;
        }
        if (row.length % 2 == 1) {
            return -2;
        }
        for (int i = 0; i < row.length; i++) {
            if (row[i].bitLength() > 31) {
                return -2;
            }
            int v = row[i].intValue();
            if (i % 2 == 0 ? noDay(v) : v != -1 && noCell(v)) {
                return -2;
            }
        }
        return 0;
    }

    private boolean seen(int slot, Way way) {
        BigInteger[] row = rows.get(slot);
        for (int i = 0; i < row.length; i += 2) {
            if (way.cell(row[i].intValue()) != row[i + 1].intValue()) {
                return false;
            }
        }
        return true;
    }

    private List<Way> fits(int slot, int t) {
        List<Way> ways = new ArrayList<>();
        for (int weight : fitWeights(slot, t)) {
            ways.add(way(world.withWeight(t, weight), t));
        }
        return ways;
    }

    private List<Integer> fitWeights(int slot, int t) {
        List<Integer> list = new ArrayList<>();
        for (int weight = 0; weight <= 30; weight++) {
            if (seen(slot, way(world.withWeight(t, weight), t))) {
                list.add(weight);
            }
        }
        return list;
    }

    public int weights(int slot, int t) {
        return refused(slot, t) != 0 ? refused(slot, t) : fitWeights(slot, t).size();
    }

    public int least(int slot, int t) {
        return refused(slot, t) != 0 ? refused(slot, t)
                : fitWeights(slot, t).stream().mapToInt(i -> i).min().orElse(-1);
    }

    public int greatest(int slot, int t) {
        return refused(slot, t) != 0 ? refused(slot, t)
                : fitWeights(slot, t).stream().mapToInt(i -> i).max().orElse(-1);
    }

    private int worst(List<Way> ways, int day) {
        Map<Integer, Integer> sizes = new TreeMap<>();
        for (Way w : ways) {
            sizes.merge(w.cell(day), 1, Integer::sum);
        }
        return sizes.values().stream().mapToInt(i -> i).max().orElse(0);
    }

    public int ask(int slot, int t) {
        if (refused(slot, t) != 0) {
            return refused(slot, t);
        }
        List<Way> ways = fits(slot, t);
        int left = leaves(slot, t);
        for (int d = 0; d <= world.days && left < ways.size(); d++) {
            if (worst(ways, d) == left) {
                return d;
            }
        }
        return -1;
    }

    public int leaves(int slot, int t) {
        if (refused(slot, t) != 0) {
            return refused(slot, t);
        }
        List<Way> ways = fits(slot, t);
        int left = ways.size();
        for (int d = 0; d <= world.days; d++) {
            left = Math.min(left, worst(ways, d));
        }
        return left;
    }

    public int laws(int slot, int t) {
        if (refused(slot, t) != 0) {
            return refused(slot, t);
        }
        int bits = 0;
        for (int l = 0; l < 4; l++) {
            bits += seen(slot, way(world.withLaw(l), t)) ? 1 << l : 0;
        }
        return bits;
    }

    public int by(int l) {
        return world == null || l < 0 || l > 3 ? -2 : rightLast(world.withLaw(l));
    }

    public int law() {
        if (world == null) {
            return -2;
        }
        int best = 0;
        int fewest = Integer.MAX_VALUE;
        for (int l = 0; l < 4; l++) {
            int all = 0;
            for (int t = 0; t < world.things.size(); t++) {
                all += way(world.withLaw(l), t).allSteps();
            }
            if (all < fewest) {
                fewest = all;
                best = l;
            }
        }
        return best;
    }

    private int kept(Set<Integer> set) {
        List<Spot> alone = new ArrayList<>();
        set.forEach(s -> alone.add(world.shelters.get(s)));
        World w = world.withShelters(alone);
        int n = 0;
        for (int t = 0; t < w.things.size(); t++) {
            n += way(w, t).receivedDay() == null ? 1 : 0;
        }
        return n;
    }

    public int worth(int set) {
        if (world == null || set < 0 || set > (1 << world.shelters.size()) - 1) {
            return -2;
        }
        Set<Integer> numbers = new HashSet<>();
        for (int s = 0; s < world.shelters.size(); s++) {
            if ((set >> s & 1) == 1) {
                numbers.add(s);
            }
        }
        return kept(numbers);
    }

    /** Over every order, one by one. */
    private long[] overOrders(int shelter, int[] worths, List<Integer> order) {
        int n = world.shelters.size();
        if (order.size() == n) {
            int set = 0;
            for (int s : order) {
                if (s == shelter) {
                    return new long[] {worths[set | 1 << s] - worths[set], 1};
                }
                set |= 1 << s;
            }
        }
        long[] sum = {0, 0};
        for (int s = 0; s < n; s++) {
            if (!order.contains(s)) {
                order.add(s);
                long[] part = overOrders(shelter, worths, order);
                sum[0] += part[0];
                sum[1] += part[1];
                order.remove(order.size() - 1);
            }
        }
        return sum;
    }

    private static long part(BigInteger above, BigInteger below, int what) {
        BigInteger g = above.gcd(below);
        return (what == 0 ? above : below).divide(g).longValueExact();
    }

    public int share(int s, int what) {
        if (world == null || s < 0 || s >= world.shelters.size() || what < 0 || what > 1) {
            return -1000;
        }
        int[] worths = new int[1 << world.shelters.size()];
        for (int set = 0; set < worths.length; set++) {
            worths[set] = worth(set);
        }
        long[] sum = overOrders(s, worths, new ArrayList<>());
        return (int) part(BigInteger.valueOf(sum[0]), BigInteger.valueOf(sum[1]), what);
    }

    private int pay(int h, int mine, int other, int theirs) {
        List<Spot> more = new ArrayList<>(world.shelters);
        if (mine == 1) {
            more.add(world.houses.get(h));
        }
        if (theirs == 1) {
            more.add(world.houses.get(other));
        }
        World w = world.withShelters(more);
        int sum = -3 * mine;
        for (int t = 0; t < w.things.size(); t++) {
            sum += hadBy(w, way(w, t).last()) == h ? 5 : 0;
        }
        return sum;
    }

    public int rests(int h, int o) {
        if (noHouse(h) || noHouse(o) || h == o) {
            return -2;
        }
        int bits = 0;
        for (int x = 0; x < 2; x++) {
            for (int y = 0; y < 2; y++) {
                boolean better = pay(h, 1 - x, o, y) > pay(h, x, o, y);
                boolean otherBetter = pay(o, 1 - y, h, x) > pay(o, y, h, x);
                if (!better && !otherBetter) {
                    bits += x == 0 && y == 0 ? 1 : x == 1 && y == 0 ? 2 : x == 0 ? 4 : 8;
                }
            }
        }
        return bits;
    }

    public int gets(int h, int o, int x, int y) {
        if (noHouse(h) || noHouse(o) || h == o || x < 0 || x > 1 || y < 0 || y > 1) {
            return -1000;
        }
        return pay(h, x, o, y);
    }

    // ---- chance

    private interface Amount {
        int of(Way way);
    }

    private BigInteger expected(World w, int t, int wind, int set, Amount amount) {
        if (wind == w.winds.size()) {
            return BigInteger.valueOf(amount.of(way(w.withWindsOnly(set), t)));
        }
        BigInteger yes = w.odds == 0 ? BigInteger.ZERO : expected(w, t, wind + 1, set | 1 << wind, amount);
        BigInteger no = w.odds == 10 ? BigInteger.ZERO : expected(w, t, wind + 1, set, amount);
        return yes.multiply(BigInteger.valueOf(w.odds)).add(no.multiply(BigInteger.valueOf(10 - w.odds)));
    }

    public long chance(int t, int what) {
        if (noThing(t) || what < 0 || what > 1) {
            return -2;
        }
        return part(expected(world, t, 0, 0, w -> w.receivedDay() == null ? 0 : 1),
                BigInteger.TEN.pow(world.winds.size()), what);
    }

    public long mean(int t, int what) {
        if (noThing(t) || what < 0 || what > 1) {
            return -2;
        }
        return part(expected(world, t, 0, 0, Way::allSteps), BigInteger.TEN.pow(world.winds.size()), what);
    }

    // ---- acts

    public int blows(int direction, int force, int day) {
        if (direction < 0 || direction > 3 || force < 1 || force > 40 || noEarlyDay(day)) {
            return -2;
        }
        if (world.acts.size() == 30) {
            return -5;
        }
        world = world.withAct(new Act(new Wind(direction, force, day), -1, null, day));
        return moved(day);
    }

    public int brings(int t, int cell, int day) {
        if (noThing(t) || noCell(cell) || noEarlyDay(day)) {
            return -2;
        }
        if (world.acts.size() == 30) {
            return -5;
        }
        world = world.withAct(new Act(null, t, new Spot(cell / 10, cell % 10), day));
        return at(t, world.days);
    }

    public int undo() {
        if (world == null) {
            return -2;
        }
        if (world.acts.isEmpty()) {
            return -5;
        }
        world = world.withActs(new ArrayList<>(world.acts.subList(0, world.acts.size() - 1)));
        return world.acts.size();
    }

    public int anew() {
        if (world == null) {
            return -2;
        }
        int n = world.acts.size();
        world = world.withActs(List.of());
        return n;
    }

    // ---- years

    private int year(long seed) {
        BigInteger x = BigInteger.valueOf(seed);
        int bits = 0;
        for (int w = 0; w < world.winds.size(); w++) {
            x = x.multiply(BigInteger.valueOf(1103515245)).add(BigInteger.valueOf(12345)).mod(BigInteger.TWO.pow(31));
            bits += x.divide(BigInteger.valueOf(65536)).mod(BigInteger.TEN).intValue() < world.odds ? 1 << w : 0;
        }
        return bits;
    }

    public int drawn(int seed, int what) {
        if (world == null || seed < 0 || seed > 2_000_000_000 || what < 0 || what > 1) {
            return -2;
        }
        World w = world.withWindsOnly(year(seed));
        return what == 0 ? year(seed) : thingsThat(t -> way(w, t).receivedDay() != null);
    }

    public int luck(int seed, int n, int t) {
        if (seed < 0 || seed > 2_000_000_000 || n < 1 || n > 20 || noThing(t)) {
            return -2;
        }
        int sum = 0;
        for (long s = seed; s < (long) seed + n; s++) {
            sum += way(world.withWindsOnly(year(s)), t).receivedDay() != null ? 1 : 0;
        }
        return sum;
    }

    public int rate(int t, int n) {
        if (noThing(t) || n < 0 || n > 30) {
            return -2;
        }
        if (!world.acts.isEmpty()) {
            return -5;
        }
        int before = world.things.get(t).weight;
        world = world.withWeight(t, n);
        return before;
    }

    public int count(int what) {
        if (what == 11) {
            return tape.length();
        }
        if (what == 12) {
            return (int) rows.stream().filter(r -> r != null).count();
        }
        if (what < 0 || what > 12) {
            return -1;
        }
        if (world == null) {
            return 0;
        }
        return List.of(world.days, world.law, world.odds, world.wide, world.high, world.houses.size(),
                world.shelters.size(), world.things.size(), world.winds.size(), world.acts.size(), world.lines)
                .get(what);
    }

    // ---- images and slots

    public int image(int k) {
        if (k < 0 || k > 2) {
            return -2;
        }
        images[k] = world;
        kept[k] = true;
        return 0;
    }

    public int back(int k) {
        if (k < 0 || k > 2) {
            return -2;
        }
        if (!kept[k]) {
            return -6;
        }
        world = images[k];
        return 0;
    }

    public int row(int slot, int width, int n) {
        if (slot < 0 || slot > 3 || width < 0 || width > 3 || n > 60) {
            return -2;
        }
        if (n < 0) {
            return -3;
        }
        BigInteger[] row = new BigInteger[n];
        Arrays.fill(row, BigInteger.ZERO);
        rows.set(slot, row);
        widths[slot] = width;
        return 0;
    }

    public int write(int slot, int i, long v) {
        if (slot < 0 || slot > 3) {
            return -2;
        }
        if (rows.get(slot) == null) {
            return -6;
        }
        if (i < 0 || i >= rows.get(slot).length) {
            return -7;
        }
        int bits = 8 << widths[slot];
        BigInteger cut = BigInteger.valueOf(v).mod(BigInteger.TWO.pow(bits));
        rows.get(slot)[i] = cut.testBit(bits - 1) ? cut.subtract(BigInteger.TWO.pow(bits)) : cut;
        return 0;
    }

    public int paste(int slot, int i, int to, int k, int n) {
        if (slot < 0 || slot > 3 || to < 0 || to > 3) {
            return -2;
        }
        BigInteger[] from = rows.get(slot);
        BigInteger[] into = rows.get(to);
        if (from == null || into == null) {
            return -6;
        }
        if (widths[slot] != widths[to]) {
            return -8;
        }
        if (i < 0 || k < 0 || n < 0 || (long) i + n > from.length || (long) k + n > into.length) {
            return -7;
        }
        BigInteger[] were = from.clone();
        for (int j = 0; j < n; j++) {
            into[k + j] = were[i + j];
        }
        return 0;
    }
}
