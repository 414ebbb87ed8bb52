import java.math.BigInteger;
import java.util.ArrayList;
import java.util.List;
import java.util.function.ToIntFunction;
import java.util.regex.Matcher;
import java.util.regex.Pattern;

/** Each sentence of the Terms I to X that names a boundary: the last that is taken, the first that is refused. */
public final class BoundaryTermsTest extends Asking {
    private static final String HEAD = "plain days 3 law 0 odds 5 wide 4 high 3;";

    public static void main(String[] args) {
        firstLine();
        numbersOfTheFirstLine();
        cells();
        cellsTaken();
        thingsAndWinds();
        howMany();
        numberedAsTheyStand();
        blanksAndBytes();
        longestTokens();
        words();
        placesOfFaults();
        textsCutOff();
        forceAndWeight();
        sheltersBeside();
        sheltersAhead();
        atTheEdge();
        lawNot();
        lawAway();
        lawAround();
        lawToAndFro();
        daysOfWinds();
        orderOfWinds();
        broughtBack();
        receivedBy();
        nearest();
        keeping();
        blowing();
        seenRows();
        worths();
        game();
        chances();
        draws();
        finish("BoundaryTermsTest");
    }

    // Term I.

    private static WindSigned taken(String text) {
        WindSigned w = new WindSigned();
        feed(w, text);
        int lines = text.replaceAll("[^;]", "").length();
        due(lines, w.plain(), "plain() of " + text);
        due(of(0, -1, lines, 0), w.fault(0), w.fault(1), w.count(10), w.count(11));
        return w;
    }

    private static void refused(int kind, int place, String text) {
        WindSigned w = told(HEAD + "house 3 2;thing weighs 1 at 0 0 for 0;wind 1 3 at 1;");
        w.brings(0, 12, 0);
        feed(w, text);
        List<Long> before = seen(w);
        due(-4, w.plain(), "plain() of " + text);
        due(of(kind, place), w.fault(0), w.fault(1));
        if (!before.equals(seen(w))) {
            fail("all stays, not so with " + text);
        }
        // The bytes of the tape stay, too: the same fault is found again.
        due(of(-4, kind, place, text.length()), w.plain(), w.fault(0), w.fault(1), w.count(11));
    }

    /** A number between two parts of a text, as the object tells it again. */
    private static void bounds(String before, int lowest, int highest, String after, ToIntFunction<WindSigned> value) {
        for (String zeros : List.of("", "0", "000000000000000000000")) {
            due(lowest, value.applyAsInt(taken(before + zeros + lowest + after)), before);
            due(highest, value.applyAsInt(taken(before + zeros + highest + after)), before);
            refused(2, before.length(), before + zeros + (highest + 1) + after);
            if (lowest > 0) {
                refused(2, before.length(), before + zeros + (lowest - 1) + after);
            }
        }
        // Numbers that would be in bounds, if they went round in 8, 16, 32 or 64 bits.
        for (int bits : new int[] {8, 16, 31, 32, 63, 64, 128}) {
            refused(2, before.length(), before + BigInteger.ONE.shiftLeft(bits).add(BigInteger.valueOf(lowest)) + after);
        }
        refused(2, before.length(), before + "9".repeat(99) + after);
        refused(1, before.length(), before + "-" + lowest + after);
        refused(1, before.length(), before + "n" + lowest + after);
    }

    private static void firstLine() {
        says("I: plain is the first LINE and no other");
        due(0, taken("").count(10));
        due(0, taken("\n  \n").count(10));
        due(1, taken(HEAD).count(10));
        refused(1, 0, "house 0 0;");
        refused(1, 0, "house 0 0;" + HEAD);
        refused(1, 0, "shelter 0 0;" + HEAD);
        refused(1, 0, "thing weighs 0 at 0 0 for 0;" + HEAD);
        refused(1, 0, "wind 0 1 at 0;" + HEAD);
        refused(1, 0, "days 3 law 0 odds 5 wide 4 high 3;");
        refused(1, 0, ";" + HEAD);
        refused(1, 40, HEAD + HEAD);
        refused(1, 40, HEAD + "plain;");
        refused(1, 51, HEAD + "house 0 0;\n" + HEAD);
        refused(1, 40, HEAD + ";");
        refused(1, 40, HEAD + "days 3;");
    }

    private static void numbersOfTheFirstLine() {
        says("I: days 1 .. 14");
        bounds("plain days ", 1, 14, " law 0 odds 5 wide 4 high 3;", w -> w.count(0));
        says("I: law 0 .. 3");
        bounds("plain days 3 law ", 0, 3, " odds 5 wide 4 high 3;", w -> w.count(1));
        says("I: odds 0 .. 10");
        bounds("plain days 3 law 0 odds ", 0, 10, " wide 4 high 3;", w -> w.count(2));
        says("I: wide 2 .. 9");
        bounds("plain days 3 law 0 odds 5 wide ", 2, 9, " high 3;", w -> w.count(3));
        says("I: high 2 .. 9");
        bounds("plain days 3 law 0 odds 5 wide 4 high ", 2, 9, ";", w -> w.count(4));
    }

    private static void cells() {
        for (int[] size : new int[][] {{2, 2}, {2, 9}, {9, 2}, {5, 6}, {9, 9}}) {
            String head = "plain days 3 law 0 odds 5 wide " + size[0] + " high " + size[1] + ";";
            int x = size[0] - 1;
            int y = size[1] - 1;
            says("I: X 0 .. wide less 1, of " + size[0]);
            bounds(head + "house ", 0, x, " " + y + ";", w -> w.house(0) / 10);
            bounds(head + "shelter ", 0, x, " " + y + ";", w -> w.shelter(0) / 10);
            bounds(head + "house 0 0;thing weighs 0 at ", 0, x, " " + y + " for 0;", w -> w.thing(0, 1) / 10);
            says("I: Y 0 .. high less 1, of " + size[1]);
            bounds(head + "house " + x + " ", 0, y, ";", w -> w.house(0) % 10);
            bounds(head + "shelter " + x + " ", 0, y, ";", w -> w.shelter(0) % 10);
            bounds(head + "house 0 0;thing weighs 0 at " + x + " ", 0, y, " for 0;", w -> w.thing(0, 1) % 10);
        }
    }

    private static void cellsTaken() {
        says("I: no two houses in one cell, nor two shelters (of a cell that is taken: Y)");
        refused(2, 58, HEAD + "house 0 0;house 0 0;");
        refused(2, 61, HEAD + "house 3 2;house  3 \n 2;");
        refused(2, 62, HEAD + "shelter 3 2;shelter 3 2;");
        refused(2, 68, HEAD + "house 0 0;house 0 1;house 0 0;");
        refused(2, 68, HEAD + "house 0 0;house 0 1;house 0 1;");
        String houses = HEAD + "house 0 0;house 0 1;house 0 2;house 1 0;house 1 1;";
        refused(2, houses.length() + 8, houses + "house 0 0;");
        refused(2, houses.length() + 8, houses + "house 1 1;");
        due(12, taken(houses + "house 1 2;").house(5));
        String shelters = HEAD + "shelter 0 0;shelter 0 1;shelter 0 2;shelter 1 0;shelter 1 1;shelter 1 2;shelter 2 0;";
        refused(2, shelters.length() + 10, shelters + "shelter 0 0;");
        refused(2, shelters.length() + 10, shelters + "shelter 2 0;");
        due(21, taken(shelters + "shelter 2 1;").shelter(7));
        // A cell that is one X, Y apart, or X and Y the other way round, is another one.
        due(of(21, 12, 22, 11), houseCells(taken(HEAD + "house 2 1;house 1 2;house 2 2;house 1 1;")));
        // X out of its bounds comes ahead of Y.
        refused(2, 56, HEAD + "house 0 0;house 4 0;");
        // A house, a shelter and several things may be in one cell.
        WindSigned w = taken(HEAD + "house 1 1;shelter 1 1;thing weighs 0 at 1 1 for 0;thing weighs 0 at 1 1 for 0;");
        due(of(11, 11, 11, 11), w.house(0), w.shelter(0), w.thing(0, 1), w.thing(1, 1));
    }

    private static long[] houseCells(WindSigned w) {
        return of(w.house(0), w.house(1), w.house(2), w.house(3));
    }

    private static void thingsAndWinds() {
        says("I: thing: 0 .. 30");
        bounds(HEAD + "house 0 0;thing weighs ", 0, 30, " at 0 0 for 0;", w -> w.thing(0, 0));
        says("I: a HOUSE told ahead");
        StringBuilder houses = new StringBuilder(HEAD);
        for (int n = 0; n < 6; n++) {
            String thing = "thing weighs 0 at 0 0 for ";
            refused(2, houses.length() + thing.length(), houses + thing + n + ";");
            // One told behind does not help.
            refused(2, houses.length() + thing.length(), houses + thing + n + ";house 3 2;");
            houses.append("house ").append(n / 3).append(' ').append(n % 3).append(';');
            bounds(houses + thing, 0, n, ";", w -> w.thing(0, 2));
        }
        says("I: wind: a DIRECTION 0 .. 3");
        bounds(HEAD + "wind ", 0, 3, " 1 at 0;", w -> w.wind(0, 0));
        says("I: FORCE 1 .. 40");
        bounds(HEAD + "wind 0 ", 1, 40, " at 0;", w -> w.wind(0, 1));
        says("I: at 0 .. 13, however many days there are");
        bounds(HEAD + "wind 0 1 at ", 0, 13, ";", w -> w.wind(0, 2));
        bounds(HEAD.replace("days 3", "days 1") + "wind 0 1 at ", 0, 13, ";", w -> w.wind(0, 2));
        bounds(HEAD.replace("days 3", "days 14") + "wind 0 1 at ", 0, 13, ";", w -> w.wind(0, 2));
    }

    private static void howMany() {
        says("I: HOUSES 0 .. 5, SHELTERS 0 .. 7, THINGS 0 .. 5, WINDS 0 .. 8");
        WindSigned w = taken(FULL);
        due(of(6, 8, 6, 9, 30), w.count(5), w.count(6), w.count(7), w.count(8), w.count(10));
        due(of(58, -2), w.house(5), w.house(6));
        due(of(77, -2), w.shelter(7), w.shelter(8));
        due(of(25, 85, 5, -2), w.thing(5, 0), w.thing(5, 1), w.thing(5, 2), w.thing(6, 0));
        due(of(0, 32, 5, -2), w.wind(8, 0), w.wind(8, 1), w.wind(8, 2), w.wind(9, 0));
        says("I: FAULT 3: a 7th house, 9th shelter, 7th thing, 10th wind, at its word");
        int end = FULL.length();
        for (String line : List.of("house 8 8;", "shelter 8 8;", "thing weighs 0 at 0 0 for 0;", "wind 0 1 at 0;")) {
            refused(3, end, FULL + line);
            refused(3, end + 2, FULL + " \n" + line);
            refused(3, end, FULL + line + line);
            // Whatever stands behind the word, that comes later.
            String word = line.substring(0, line.indexOf(' '));
            refused(3, end, FULL + word);
            refused(3, end, FULL + word + ";");
            refused(3, end, FULL + word + " 99 99 99!");
            // The last one alone is too many: without one of its kind told ahead it is taken.
            int first = FULL.indexOf(line.startsWith("house") ? "house 5" : word);
            String fewer = FULL.substring(0, first) + FULL.substring(FULL.indexOf(';', first) + 1);
            if (!line.startsWith("house")) {
                due(30, taken(fewer + line).count(10));
            }
            refused(3, end, FULL + line.replace(" ", "\n"));
        }
        String six = HEAD + "house 0 0;house 0 1;house 0 2;house 1 0;house 1 1;";
        due(7, taken(six + "house 1 2;").count(10));
        refused(3, six.length() + 10, six + "house 1 2;house 2 2;");
        // In a cell that is taken, too: the word is ahead of Y.
        refused(3, six.length() + 10, six + "house 1 2;house 1 2;");
    }

    private static void numberedAsTheyStand() {
        says("I: they are numbered as they stand");
        WindSigned w = taken(HEAD + "wind 3 7 at 2;house 2 2;shelter 0 1;wind 1 5 at 0;thing weighs 4 at 1 0 for 0;"
                + "house 0 0;thing weighs 9 at 3 2 for 1;shelter 3 0;");
        due(of(22, 0), w.house(0), w.house(1));
        due(of(1, 30), w.shelter(0), w.shelter(1));
        due(of(4, 10, 0), w.thing(0, 0), w.thing(0, 1), w.thing(0, 2));
        due(of(9, 32, 1), w.thing(1, 0), w.thing(1, 1), w.thing(1, 2));
        due(of(3, 7, 2), w.wind(0, 0), w.wind(0, 1), w.wind(0, 2));
        due(of(1, 5, 0), w.wind(1, 0), w.wind(1, 1), w.wind(1, 2));
    }

    private static void blanksAndBytes() {
        says("I: TOKENS, blanks (32, 10) aside: words (a .. z), numbers (digits), the sign ;");
        for (int b = 0; b < 256; b++) {
            char sign = (char) b;
            boolean isBlank = b == 32 || b == 10;
            boolean isLetter = b >= 'a' && b <= 'z';
            String between = "plain" + sign + "days 3 law 0 odds 5 wide 4 high 3;";
            String ahead = sign + HEAD;
            String behind = HEAD + sign;
            String inNumber = HEAD.replace("days 3", "days 1" + sign + "1");
            if (isBlank) {
                due(of(1, 1, 1), taken(between).count(10), taken(ahead).count(10), taken(behind).count(10));
                refused(1, 13, inNumber);
                continue;
            }
            refused(1, isLetter ? 0 : 5, between);
            refused(1, 0, ahead);
            refused(1, 40, behind);
            if (b < '0' || b > '9') {
                refused(1, 12, inNumber);
            } else {
                refused(2, 11, inNumber);
            }
        }
    }

    private static void longestTokens() {
        says("I: TOKENS, the longest");
        due(of(14, 3, 10, 9, 9), firstCounts(taken("plain days14law3odds10wide9high9;")));
        due(of(3, 0, 5, 4, 3), firstCounts(taken("plain\ndays 3law\n0odds 5wide 4high\n3\n;\n")));
        refused(1, 0, "plaindays 3 law 0 odds 5 wide 4 high 3;");
        refused(1, 0, "plains days 3 law 0 odds 5 wide 4 high 3;");
        refused(1, 0, "plai n days 3 law 0 odds 5 wide 4 high 3;");
        refused(2, 11, "plain days 33 law 0 odds 5 wide 4 high 3;");
        refused(1, 13, "plain days 3 3 law 0 odds 5 wide 4 high 3;");
        WindSigned w = taken(HEAD + "house0 0;shelter1 1;thing weighs0at0 1for0;wind0 40at13;");
        due(of(0, 11, 1, 40), w.house(0), w.shelter(0), w.thing(0, 1), w.wind(0, 1));
        refused(2, 46, HEAD + "house 00111;");
        refused(1, 48, HEAD + "house 00;");
    }

    /** Each word of a line with one letter that is another one, one letter more, and one less. */
    private static void words() {
        says("I: FAULT 1: a TOKEN that can't stand there, letter by letter");
        String text = HEAD + "house 0 0;shelter 1 1;thing weighs 0 at 2 2 for 0;wind 0 1 at 0;";
        Matcher m = Pattern.compile("[a-z]+").matcher(text);
        while (m.find()) {
            String ahead = text.substring(0, m.start());
            String behind = text.substring(m.end());
            for (int i = 0; i < m.group().length(); i++) {
                char other = m.group().charAt(i) == 'q' ? 'r' : 'q';
                refused(1, m.start(), ahead + m.group().substring(0, i) + other + m.group().substring(i + 1) + behind);
                refused(1, m.start(), ahead + m.group().substring(0, i) + m.group().substring(i + 1) + behind);
                refused(1, m.start(), ahead + m.group().substring(0, i) + other + m.group().substring(i) + behind);
                // A letter of the other case is no letter: what stands ahead of it is a word that can't stand there.
                refused(1, m.start(), ahead + m.group().substring(0, i) + Character.toUpperCase(m.group().charAt(i))
                        + m.group().substring(i + 1) + behind);
            }
            refused(1, m.start(), ahead + m.group() + "s" + behind);
            refused(1, m.start(), ahead + behind.replaceFirst("^ ", ""));
        }
    }

    private static long[] firstCounts(WindSigned w) {
        return of(w.count(0), w.count(1), w.count(2), w.count(3), w.count(4));
    }

    private static void placesOfFaults() {
        says("I: FAULTS, the first by its place");
        refused(2, 11, "plain days 0 law 4 odds 5 wide 4 high 3;!");
        refused(2, 17, "plain days 3 law 4 odds ? wide 4 high 3;");
        refused(1, 13, "plain days 3 low 4 odds 5 wide 1 high 3;");
        refused(2, 46, HEAD + "house 4 3;");
        refused(2, 48, HEAD + "house 3 3;plain");
        refused(1, 49, HEAD + "house 3 2,house 3 3;");
        refused(2, 48, HEAD + "house 3 9");
        refused(2, 49, HEAD + "shelter  4 0;wind 4 0 at 0;");
        refused(2, 45, HEAD + "wind 4 0 at 14;");
        refused(2, 47, HEAD + "wind 3 0 at 14;");
        refused(2, 52, HEAD + "wind 3 1 at 14;");
        says("I: FAULTS, of one place the least");
        String six = HEAD + "house 0 0;house 0 1;house 0 2;house 1 0;house 1 1;house 1 2";
        // A word that can't stand there, be it a 7th of its kind or not.
        refused(1, six.length(), six + "house 2 2;");
        refused(1, six.length() + 1, six + " house 2 2;");
        refused(3, six.length() + 1, six + ";house 2 2;");
        // A number where a word is due can't stand there, be it out of bounds or not.
        refused(1, 6, "plain 99 3 law 0 odds 5 wide 4 high 3;");
        refused(1, 6, "plain 3 3 law 0 odds 5 wide 4 high 3;");
        refused(1, 50, HEAD + "house 0 0 99;");
        says("I: FAULTS: a TOKEN that can't stand there");
        refused(1, 46, HEAD + "house house 0 0;");
        refused(1, 47, HEAD + "thing  weigh 3 at 0 0 for 0;");
        refused(1, 49, HEAD + "wind 0 1 in 0;");
        refused(1, 53, HEAD + "wind 0 1 at 0at 0;");
        refused(1, 61, HEAD + "house 0 0;wind 0 1 at;");
    }

    /** The text cut off behind each of its bytes: a whole line, a word begun, or something that the end is not. */
    private static void textsCutOff() {
        says("I: FAULTS: their places (a TOKEN's first byte; the end's)");
        String text = " plain  days 4 law 3 odds 1\nwide 9 high 8 ; house 2 3;\n\nshelter 4 5 ;"
                + "thing weighs 2 at 1 7 for 0;wind 3 4 at 1; \n";
        List<int[]> tokens = new ArrayList<>();
        Matcher m = Pattern.compile("[a-z]+|[0-9]+|;").matcher(text);
        while (m.find()) {
            tokens.add(new int[] {m.start(), m.end()});
        }
        for (int cut = 0; cut <= text.length(); cut++) {
            String part = text.substring(0, cut);
            int last = -1;
            for (int i = 0; i < tokens.size() && tokens.get(i)[0] < cut; i++) {
                last = i;
            }
            if (last < 0 || text.charAt(tokens.get(last)[0]) == ';') {
                taken(part);
            } else if (tokens.get(last)[1] > cut) {
                refused(1, tokens.get(last)[0], part);
            } else {
                refused(1, cut, part);
            }
        }
    }

    // Term II. A strip is two cells high; its one thing lies in the upper row.

    private static String strip(int law, int wide, int x, int weight) {
        return "plain days 2 law " + law + " odds 5 wide " + wide + " high 2;house 0 0;thing weighs " + weight + " at "
                + x + " 0 for 0;";
    }

    /** Where the thing lies behind the winds of day 0, and its steps in it. */
    private static void goes(int cell, int steps, String text) {
        WindSigned w = told(text);
        due(of(cell, steps), w.at(0, 1), w.steps(0, 0));
        due(of(steps > 0 ? 1 : 0, steps > 0 ? 0 : -1), w.moved(0), w.received(0));
        due(of(steps > 0 ? 1 : 0, cell == -1 ? 1 : 0), w.signed(1), w.gone(1));
    }

    private static void forceAndWeight() {
        says("II: if its FORCE is more than it weighs; STEPS, 1 and a third of what FORCE is more (cut)");
        for (int weight : new int[] {0, 1, 2, 7, 29, 30}) {
            for (int more = -3; more <= 10 && weight + more <= 40; more++) {
                if (weight + more >= 1) {
                    int steps = more <= 0 ? 0 : more < 3 ? 1 : more < 6 ? 2 : more < 9 ? 3 : 4;
                    goes(10 * steps, steps, strip(0, 9, 0, weight) + "wind 1 " + (weight + more) + " at 0;");
                }
            }
        }
        // The most that there is: 40 more is 14 steps, 39 more as well, 38 more is 13.
        goes(50, 14, strip(2, 9, 0, 0) + "wind 1 40 at 0;");
        goes(50, 14, strip(2, 9, 0, 0) + "wind 1 39 at 0;");
        goes(50, 14, strip(2, 9, 0, 1) + "wind 1 40 at 0;");
        goes(40, 13, strip(2, 9, 0, 2) + "wind 1 40 at 0;");
        goes(40, 13, strip(2, 9, 0, 0) + "wind 1 38 at 0;");
    }

    private static void sheltersBeside() {
        says("II: no SHELTER is in the cell beside it from which the WIND comes");
        String plain = "plain days 2 law 0 odds 5 wide 3 high 3;house 0 0;thing weighs 0 at 1 1 for 0;";
        int[] aheadOf = {10, 21, 12, 1};
        for (int d = 0; d < 4; d++) {
            for (int s = 0; s < 4; s++) {
                String text = plain + "shelter " + aheadOf[s] / 10 + " " + aheadOf[s] % 10 + ";wind " + d + " 3 at 0;";
                // It keeps a wind that comes from it, and stops the thing at once on the way to it.
                boolean goes = s % 2 != d % 2;
                goes(goes ? aheadOf[d] : 11, goes ? 1 : 0, text);
            }
            // Two cells away, or beside it crosswise, it does not keep a wind.
            goes(aheadOf[d], 1, plain + "shelter 0 0;shelter 2 0;shelter 0 2;shelter 2 2;shelter 1 1;wind " + d
                    + " 1 at 0;");
        }
        says("II: beyond the edge there is none, by no LAW");
        int[] edges = {12, 1, 10, 21};
        for (int d = 0; d < 4; d++) {
            for (int law = 0; law < 4; law++) {
                // The shelter is where the row, the column ends on the other side: it stops behind one step.
                int last = edges[(d + 2) % 4];
                String text = "plain days 2 law " + law + " odds 5 wide 3 high 3;house 0 0;thing weighs 0 at "
                        + edges[d] / 10 + " " + edges[d] % 10 + " for 0;shelter " + last / 10 + " " + last % 10
                        + ";wind " + d + " 40 at 0;";
                goes(11, 1, text);
            }
        }
        says("II: beside where it lies then");
        String then = "plain days 2 law 0 odds 5 wide 3 high 3;house 0 0;shelter 1 0;thing weighs 0 at ";
        goes(11, 1, then + "0 1 for 0;wind 1 1 at 0;wind 2 1 at 0;");
        goes(12, 2, then + "0 1 for 0;wind 2 1 at 0;wind 1 1 at 0;");
        goes(22, 2, then + "1 1 for 0;wind 1 1 at 0;wind 2 1 at 0;");
        goes(21, 1, then + "1 1 for 0;wind 2 1 at 0;wind 1 1 at 0;");
    }

    private static void sheltersAhead() {
        says("II: a SHELTER in the next cell stops it there (for this WIND)");
        for (int law = 0; law < 4; law++) {
            goes(0, 0, strip(law, 9, 0, 0) + "shelter 1 0;wind 1 40 at 0;");
            goes(10, 1, strip(law, 9, 0, 0) + "shelter 2 0;wind 1 40 at 0;");
            goes(70, 7, strip(law, 9, 0, 0) + "shelter 8 0;wind 1 40 at 0;");
            // As many steps as lead to the cell ahead of it, one more, and one less.
            goes(60, 6, strip(law, 9, 0, 0) + "shelter 8 0;wind 1 15 at 0;");
            goes(70, 7, strip(law, 9, 0, 0) + "shelter 8 0;wind 1 18 at 0;");
            goes(70, 7, strip(law, 9, 0, 0) + "shelter 8 0;wind 1 21 at 0;");
            goes(21, 3, strip(law, 9, 0, 0) + "shelter 2 0;wind 1 40 at 0;wind 2 1 at 0;wind 1 1 at 0;");
            goes(10, 1, strip(law, 9, 0, 0) + "shelter 2 0;wind 1 40 at 0;wind 1 40 at 0;");
        }
        says("II: several may lie in one cell, in that of a SHELTER, too");
        WindSigned w = told(strip(0, 9, 3, 0) + "thing weighs 0 at 3 0 for 0;shelter 3 0;wind 1 3 at 0;wind 3 40 at 1;");
        due(of(3, 3, 3, 50, 50, 40, 40), w.here(30, 0), w.under(0), w.moved(0), w.at(0, 1), w.at(1, 1), w.at(0, 2),
                w.at(1, 2));
        says("II: stopped at once, it is not moved");
        w = told(strip(0, 9, 0, 0) + "shelter 1 0;wind 1 40 at 0;wind 3 40 at 1;wind 0 1 at 1;");
        due(of(0, 0, 0, 0), w.moved(0), w.moved(1), w.steps(0, 0), w.worn(0));
        due(of(-1, 0, 0, 7, -1, 3), w.received(0), w.signed(2), w.movers(0), w.idle(), w.gale(), w.waits(0));
    }

    private static void atTheEdge() {
        for (int[] size : new int[][] {{2, 2}, {4, 3}, {3, 9}}) {
            for (int law = 0; law < 4; law++) {
                says("II: from a cell at the edge it goes on by LAW " + law + ", from others in DIRECTION");
                for (int d = 0; d < 4; d++) {
                    oneStepFromEachCell(size[0], size[1], law, d);
                }
            }
        }
    }

    private static void oneStepFromEachCell(int wide, int high, int law, int d) {
        int dx = d == 1 ? 1 : d == 3 ? -1 : 0;
        int dy = d == 2 ? 1 : d == 0 ? -1 : 0;
        for (int x = 0; x < wide; x++) {
            for (int y = 0; y < high; y++) {
                boolean isInside = x + dx >= 0 && x + dx < wide && y + dy >= 0 && y + dy < high;
                int ahead = 10 * (x + dx) + y + dy;
                int around = 10 * ((x + dx + wide) % wide) + (y + dy + high) % high;
                int back = 10 * (x - dx) + y - dy;
                int[] beyond = {10 * x + y, -1, around, back};
                String text = "plain days 2 law " + law + " odds 5 wide " + wide + " high " + high
                        + ";house 0 0;thing weighs 30 at " + x + " " + y + " for 0;wind " + d + " 31 at 0;";
                goes(isInside ? ahead : beyond[law], isInside || law != 0 ? 1 : 0, text);
            }
        }
    }

    private static void lawNot() {
        says("II: LAW 0: not (it stops)");
        goes(80, 0, strip(0, 9, 8, 0) + "wind 1 40 at 0;");
        goes(80, 1, strip(0, 9, 7, 0) + "wind 1 40 at 0;");
        goes(80, 8, strip(0, 9, 0, 0) + "wind 1 22 at 0;");
        goes(80, 8, strip(0, 9, 0, 0) + "wind 1 21 at 0;");
        goes(70, 7, strip(0, 9, 0, 0) + "wind 1 20 at 0;");
    }

    private static void lawAway() {
        says("II: LAW 1: away: it is GONE for ever");
        goes(-1, 1, strip(1, 9, 8, 0) + "wind 1 40 at 0;");
        goes(-1, 9, strip(1, 9, 0, 0) + "wind 1 24 at 0;");
        goes(80, 8, strip(1, 9, 0, 0) + "wind 1 23 at 0;");
        goes(-1, 9, strip(1, 9, 0, 0) + "wind 1 40 at 0;wind 3 40 at 0;wind 2 40 at 0;");
        WindSigned w = told(strip(1, 9, 0, 0) + "wind 1 40 at 0;wind 3 40 at 0;wind 3 40 at 1;");
        due(of(-1, -1, 9, 0, 1), w.at(0, 1), w.at(0, 2), w.worn(0), w.steps(0, 1), w.movers(0));
        due(of(1, 1, -1, 0, 1, 0), w.gone(1), w.gone(2), w.had(0, 2), w.lee(0, 2), w.strewn(), w.edge(2));
    }

    private static void lawAround() {
        says("II: LAW 2: to the cell at the other edge of its row, its column");
        goes(0, 1, strip(2, 9, 8, 0) + "wind 1 1 at 0;");
        goes(80, 1, strip(2, 9, 0, 0) + "wind 3 1 at 0;");
        goes(40, 9, strip(2, 9, 4, 0) + "wind 1 24 at 0;");
        goes(40, 9, strip(2, 9, 4, 0) + "wind 3 24 at 0;");
        goes(0, 14, strip(2, 2, 0, 0) + "wind 2 40 at 0;");
        goes(1, 13, strip(2, 2, 0, 0) + "wind 2 36 at 0;");
        says("II: LAW 2: a SHELTER there stops it ahead of that");
        goes(80, 0, strip(2, 9, 8, 0) + "shelter 0 0;wind 1 40 at 0;");
        goes(80, 1, strip(2, 9, 7, 0) + "shelter 0 0;wind 1 40 at 0;");
        goes(0, 0, strip(2, 9, 0, 0) + "shelter 8 0;wind 3 40 at 0;");
        goes(30, 13, strip(2, 9, 8, 0) + "wind 1 38 at 0;");
        goes(0, 1, strip(2, 9, 8, 0) + "shelter 1 0;wind 1 40 at 0;");
        // Not one in the other row.
        goes(0, 1, strip(2, 9, 8, 0) + "shelter 0 1;wind 1 1 at 0;");
        // Once around it does not pass the cell of a shelter in which it lay.
        goes(70, 8, strip(2, 9, 8, 0) + "shelter 8 0;wind 1 40 at 0;");
    }

    private static void lawToAndFro() {
        says("II: LAW 3: back, against DIRECTION, by the STEPS that are left");
        goes(70, 1, strip(3, 9, 8, 0) + "wind 1 1 at 0;");
        goes(70, 2, strip(3, 9, 7, 0) + "wind 1 3 at 0;");
        goes(10, 1, strip(3, 9, 0, 0) + "wind 3 1 at 0;");
        goes(20, 14, strip(3, 9, 0, 0) + "wind 1 40 at 0;");
        says("II: LAW 3: it goes on so, to and fro");
        // 7, 8, 7 .. 0: 10 steps; 1 .. 4: 14.
        goes(40, 14, strip(3, 9, 6, 0) + "wind 1 40 at 0;");
        goes(0, 10, strip(3, 9, 6, 0) + "wind 1 27 at 0;");
        goes(10, 11, strip(3, 9, 6, 0) + "wind 1 30 at 0;");
        goes(0, 14, strip(3, 2, 0, 0) + "wind 1 40 at 0;");
        goes(10, 13, strip(3, 2, 0, 0) + "wind 1 38 at 0;");
        goes(1, 13, strip(3, 2, 0, 0) + "wind 0 38 at 0;");
        says("II: LAW 3: a SHELTER in the next cell stops it");
        goes(50, 5, strip(3, 9, 6, 0) + "shelter 4 0;wind 1 40 at 0;");
        goes(70, 1, strip(3, 9, 8, 0) + "shelter 6 0;wind 1 40 at 0;");
        goes(80, 0, strip(3, 9, 8, 0) + "shelter 7 0;wind 1 40 at 0;");
        goes(10, 9, strip(3, 9, 6, 0) + "shelter 0 0;wind 1 40 at 0;");
        // The next wind takes its own direction again.
        goes(80, 3, strip(3, 9, 7, 0) + "wind 1 3 at 0;wind 1 1 at 0;");
    }

    private static void daysOfWinds() {
        says("II: in each DAY ahead of the last its WINDS blow");
        for (int days : new int[] {1, 2, 13, 14}) {
            String head = "plain days " + days + " law 0 odds 10 wide 9 high 2;house 0 0;thing weighs 0 at 0 0 for 0;";
            WindSigned w = told(head + "wind 1 1 at " + (days - 1) + ";");
            due(of(0, 10, days - 1, 1, 0), w.at(0, days - 1), w.at(0, days), w.received(0), w.worn(0), w.idle());
            due(of(1, 1, 1, -2), w.force(days - 1), w.moved(days - 1), w.steps(0, days - 1), w.force(days));
            due(0, w.lulls() >> days - 1 & 1);
            for (int day = days; day <= 13; day++) {
                WindSigned late = told(head + "wind 1 40 at " + day + ";");
                due(of(0, -1, 0, 1), late.at(0, days), late.received(0), late.worn(0), late.idle());
                due(of((1 << days) - 1, days, 0, day), late.lulls(), late.lull(), late.moves(0), late.wind(0, 2));
                due(of(0, 1, 1, 0), late.chance(0, 0), late.chance(0, 1), late.drawn(0, 0), late.drawn(0, 1));
            }
        }
    }

    private static void orderOfWinds() {
        says("II: one by one (told ones, then those of acts, in order)");
        String head = strip(0, 3, 0, 0) + "shelter 1 0;";
        // Down first it passes below the shelter; to the right first it is stopped.
        goes(11, 2, head + "wind 2 1 at 0;wind 1 1 at 0;");
        goes(1, 1, head + "wind 1 1 at 0;wind 2 1 at 0;");
        WindSigned w = told(head + "wind 2 1 at 0;");
        due(of(1, 11), w.blows(1, 1, 0), w.at(0, 1));
        w = told(head + "wind 1 1 at 0;");
        due(of(1, 1), w.blows(2, 1, 0), w.at(0, 1));
        due(of(1, 11), w.blows(1, 1, 0), w.at(0, 1));
        w = told(head);
        due(of(0, 1, 1), w.blows(1, 1, 0), w.blows(2, 1, 0), w.at(0, 1));
        w = told(head);
        due(of(1, 1, 11), w.blows(2, 1, 0), w.blows(1, 1, 0), w.at(0, 1));
        // Days go ahead of the order of the acts.
        w = told(head);
        due(of(0, 1, 1), w.blows(1, 1, 1), w.blows(2, 1, 0), w.at(0, 1));
        due(of(11, 1, 1, 21), w.at(0, 2), w.moved(0), w.blows(1, 1, 1), w.at(0, 2));
    }

    private static void broughtBack() {
        says("II: behind WINDS of a DAY THINGS brought back by acts of it (in order) lie in the cell told");
        String head = strip(0, 9, 4, 0);
        WindSigned w = told(head + "wind 1 1 at 0;wind 1 1 at 1;");
        due(of(60, 50, 60), w.at(0, 2), w.at(0, 1), w.brings(0, 60, 1));
        due(of(60, 0, 10), w.brings(0, 0, 0), w.at(0, 1), w.brings(0, 10, 1));
        due(of(81, 0, 81, 2), w.brings(0, 81, 1), w.at(0, 1), w.at(0, 2), w.worn(0));
        // In a day of winds of acts told later, too.
        due(of(1, 81, 3), w.blows(1, 1, 1), w.at(0, 2), w.worn(0));
        // Not another one of the things.
        w = told(head + "thing weighs 0 at 4 0 for 0;");
        due(of(0, 0, 40, 40), w.brings(0, 0, 0), w.at(0, 1), w.at(1, 1), w.at(0, 0));
        says("II: GONE ones, too");
        w = told(strip(1, 9, 8, 0) + "wind 1 1 at 0;");
        due(of(-1, 80, 80, 0, 0), w.at(0, 2), w.brings(0, 80, 1), w.at(0, 2), w.gone(2), w.gone(0));
        due(of(1, 80, 30, 80, 0), w.gone(1), w.brings(0, 30, 0), w.at(0, 1), w.at(0, 2), w.gone(1));
        // In the day in which it goes away, and away again behind that.
        w = told(strip(1, 9, 8, 0) + "wind 1 1 at 0;wind 1 1 at 1;");
        due(of(-1, 80, 0, 1, 2, 3), w.brings(0, 80, 0), w.at(0, 1), w.gone(1), w.gone(2), w.worn(0), w.movers(0));
        says("II: that is no STEP, and nothing is RECEIVED by it");
        w = told(head);
        due(of(0, 0, 0, -1, 0, 0), w.brings(0, 0, 0), w.worn(0), w.steps(0, 0), w.received(0), w.moved(0), w.signed(2));
        due(of(-1, 0, 1, 4, 0), w.gale(), w.keep(0), w.waits(0), w.far(0), w.chance(0, 0));
        // To the cell of a shelter, and to the one where it lies.
        w = told(head + "shelter 4 1;");
        due(of(41, 1, 40, 0), w.brings(0, 41, 0), w.under(1), w.brings(0, 40, 0), w.under(1));
    }

    // Terms III to X.

    private static void receivedBy() {
        says("III: the first DAY ahead of the last in which a WIND moves a THING by a STEP or more (GONE, too)");
        String head = "plain days 14 law 1 odds 5 wide 2 high 2;house 0 0;thing weighs 5 at 0 0 for 0;";
        for (int day : new int[] {0, 1, 12, 13}) {
            WindSigned w = told(head + "wind 1 6 at " + day + ";");
            due(of(day, 0, 1), w.received(0), w.signed(day), w.signed(day + 1));
            w = told(head + "wind 0 6 at " + day + ";");
            due(of(day, 0, 1, 1), w.received(0), w.signed(day), w.signed(day + 1), w.gone(day + 1));
            w = told(head + "wind 1 5 at " + day + ";");
            due(of(-1, 0, 0), w.received(0), w.signed(day + 1), w.signed(14));
            w = told(head + "wind 1 6 at 13;wind 1 6 at " + day + ";");
            due(day, w.received(0));
        }
    }

    private static void nearest() {
        says("IV: the HOUSE nearest to its cell (X and Y apart, together), the first of several");
        String head = "plain days 1 law 1 odds 5 wide 9 high 9;";
        String thing = "thing weighs 0 at 4 4 for 1;";
        due(0, told(head + "house 0 4;house 8 4;" + thing).had(0, 0));
        due(0, told(head + "house 8 4;house 0 4;" + thing).had(0, 0));
        due(0, told(head + "house 2 2;house 4 0;" + thing).had(0, 0));
        due(1, told(head + "house 2 2;house 4 1;" + thing).had(0, 0));
        due(0, told(head + "house 2 3;house 4 1;" + thing).had(0, 0));
        due(1, told(head + "house 0 0;house 4 4;house 8 8;" + thing).had(0, 0));
        due(4, told(head + "house 0 0;house 8 8;house 0 8;house 8 0;house 0 1;house 8 1;" + thing).had(0, 0));
        due(5, told(head + "house 0 0;house 8 8;house 0 8;house 8 0;house 0 1;house 8 2;" + thing).had(0, 0));
        says("IV: a THING that is not GONE is HAD; RIGHT, if that is the HOUSE for which it is");
        WindSigned w = told(head + "house 0 4;house 8 4;" + thing + "wind 0 40 at 0;");
        due(of(0, -1, 0, 0, 1, 0), w.had(0, 0), w.had(0, 1), w.right(0), w.right(1), w.has(0, 0), w.has(0, 1));
        w = told(head + "house 0 4;house 8 4;" + thing + "wind 1 1 at 0;");
        due(of(0, 1, 0, 1, 1), w.had(0, 0), w.had(0, 1), w.right(0), w.right(1), w.home(0));
        says("IV: without HOUSES by nobody");
        w = told(head);
        due(of(0, -1, -2), w.right(0), w.rich(0), w.has(0, 0));
    }

    private static void keeping() {
        says("V: bit D: the cell next to it in DIRECTION D");
        String head = "plain days 2 law 0 odds 5 wide 3 high 3;house 0 0;thing weighs 0 at ";
        due(of(0, 0), told(head + "1 1 for 0;").keep(0), told(head + "1 1 for 0;").keeps(0));
        int[] sets = {1, 2, 1, 2};
        int[] ahead = {10, 21, 12, 1};
        for (int d = 0; d < 4; d++) {
            WindSigned w = told(head + "1 1 for 0;wind " + d + " 40 at 0;");
            due(of(1, sets[d]), w.keep(0), w.keeps(0));
            // With a shelter beside it on that axis it is kept as it is.
            WindSigned kept = told(head + "1 1 for 0;shelter " + ahead[d] / 10 + " " + ahead[d] % 10 + ";wind " + d
                    + " 40 at 0;");
            due(of(0, 0, 0), kept.keep(0), kept.keeps(0), kept.worn(0));
        }
        WindSigned all = told(head + "1 1 for 0;wind 0 40 at 0;wind 1 40 at 0;wind 2 40 at 1;wind 3 40 at 1;");
        due(of(2, 3), all.keep(0), all.keeps(0));
        says("V: none where a SHELTER is told, nor beyond the edge");
        // In each corner two cells are left, the other two are beyond the edge.
        int[] corners = {0, 2, 20, 22};
        int[] crossed = {6, 3, 12, 9};
        for (int i = 0; i < 4; i++) {
            WindSigned w = told(head.replace("law 0", "law 2") + corners[i] / 10 + " " + corners[i] % 10
                    + " for 0;wind 0 40 at 0;wind 1 40 at 0;wind 2 40 at 1;wind 3 40 at 1;");
            due(of(2, crossed[i]), w.keep(0), w.keeps(0));
        }
        WindSigned w = told(head + "1 1 for 0;shelter 1 0;wind 1 40 at 0;wind 0 40 at 1;");
        due(of(1, 2), w.keep(0), w.keeps(0));
        says("V: beside where a THING is told to lie");
        w = told(head + "1 1 for 0;wind 1 40 at 1;");
        due(of(20, -1, -1), w.brings(0, 10, 0), w.keep(0), w.keeps(0));
        w.undo();
        due(of(1, 2), w.keep(0), w.keeps(0));
    }

    private static void blowing() {
        says("VI: a WIND more in a DAY, behind all others of it");
        String head = strip(0, 3, 0, 0).replace("house 0 0;", "house 0 1;house 2 1;") + "shelter 1 0;";
        // Below the shelter the way to the right is free, but only behind the wind down; two steps are wanted.
        WindSigned w = told(head + "wind 2 1 at 0;");
        due(of(3, 3, -1), w.blow(0, 1, 0, 1), w.blow(0, 1, 1, 1), w.blow(0, 1, 0, 3));
        w = told(head);
        due(of(-1, -1), w.blow(0, 1, 0, 1), w.blow(0, 1, 1, 1));
        due(1, w.blows(2, 1, 0));
        due(of(3, 3), w.blow(0, 1, 0, 1), w.blow(0, 1, 1, 1));
        // What is brought back in the day comes behind the wind more.
        due(of(1, 3, -1, 2), w.brings(0, 1, 0), w.blow(0, 1, 1, 1), w.blow(0, 1, 0, 1), w.count(9));
    }

    private static void seenRows() {
        says("VII: two numbers each: a DAY, where one THING lay (10 times X, and Y; -1: GONE)");
        String text = "plain days 14 law 1 odds 5 wide 9 high 9;house 0 0;thing weighs 4 at 8 8 for 0;wind 1 30 at 13;";
        WindSigned w = told(text);
        row(w, 0, 0, 14, -1);
        due(of(30, 0, 29, -1, 30), w.weights(0, 0), w.least(0, 0), w.greatest(0, 0), w.ask(0, 0), w.leaves(0, 0));
        row(w, 0, 0, 14, 88);
        due(of(1, 30, 30, -1, 1), w.weights(0, 0), w.least(0, 0), w.greatest(0, 0), w.ask(0, 0), w.leaves(0, 0));
        row(w, 0, 0);
        due(of(31, 0, 30, 14, 30, 15), guesses(w, 0, 0));
        long[][] wrong = {{15, 88}, {-1, 88}, {0, 89}, {0, 98}, {0, 90}, {0, 9}, {0, -2}, {0, 88, 0}, {0}, {127, 0}};
        for (long[] numbers : wrong) {
            row(w, 0, 0, numbers);
            due(of(-2, -2, -2, -2, -2, -2), guesses(w, 0, 0));
        }
        long[][] right = {{0, 88}, {13, 88}, {0, 88, 0, 88}, {0, 88, 1, 88, 13, 88}};
        for (long[] numbers : right) {
            row(w, 0, 0, numbers);
            due(31, w.weights(0, 0));
        }
        long[][] others = {{0, 0}, {0, 8}, {0, 80}, {0, -1}, {14, 0}, {0, 88, 0, 0}, {13, -1}};
        for (long[] numbers : others) {
            row(w, 0, 0, numbers);
            due(of(0, -1, -1, -1, 0, 0), guesses(w, 0, 0));
        }
        // A full row: thirty times what was seen; the last of them counts as the first does.
        long[] many = new long[60];
        for (int i = 0; i < 60; i += 2) {
            many[i] = i / 2 % 14;
            many[i + 1] = 88;
        }
        row(w, 0, 1, many);
        due(31, w.weights(0, 0));
        w.write(0, 59, 87);
        due(0, w.weights(0, 0));
        w.write(0, 59, 89);
        due(-2, w.weights(0, 0));
        says("VII: what it weighs was otherwise (0 .. 30)");
        due(of(4, 4), w.thing(0, 0), told(text).thing(0, 0));
    }

    private static void worths() {
        says("VIII: a set of SHELTERS alone stands: it is worth as many THINGS as are never RECEIVED");
        // Each thing has a shelter of its own at its left; the wind comes from there.
        StringBuilder text = new StringBuilder("plain days 1 law 0 odds 5 wide 3 high 9;house 0 0;");
        for (int i = 0; i < 6; i++) {
            text.append("thing weighs 0 at 1 ").append(i).append(" for 0;shelter 0 ").append(i).append(';');
        }
        WindSigned w = told(text + "shelter 2 7;shelter 2 8;wind 1 1 at 0;");
        for (int set = 0; set < 256; set++) {
            due(Integer.bitCount(set & 63), w.worth(set), "worth(" + set + ")");
        }
        due(of(-2, -2, -2, -2), w.worth(256), w.worth(-1), w.worth(Integer.MAX_VALUE), w.worth(Integer.MIN_VALUE));
        w = told(text + "shelter 2 7;shelter 2 8;wind 1 1 at 0;");
        says("VIII: SHELTERS come in an order, each has what the set is worth more by it: the mean");
        for (int shelter = 0; shelter < 8; shelter++) {
            due(of(shelter < 6 ? 1 : 0, 1), w.share(shelter, 0), w.share(shelter, 1));
        }
        // Two that keep the same thing share it; one alone has it whole.
        String one = "plain days 1 law 0 odds 5 wide 3 high 3;house 0 0;thing weighs 0 at 1 1 for 0;wind 1 1 at 0;";
        due(of(1, 1), told(one + "shelter 0 1;").share(0, 0), told(one + "shelter 0 1;").share(0, 1));
        w = told(one + "shelter 0 1;shelter 2 1;");
        due(of(1, 2, 1, 2), w.share(0, 0), w.share(0, 1), w.share(1, 0), w.share(1, 1));
        w = told(one + "shelter 0 1;shelter 2 1;shelter 0 0;");
        due(of(1, 2, 1, 2, 0, 1), w.share(0, 0), w.share(0, 1), w.share(1, 0), w.share(1, 1), w.share(2, 0),
                w.share(2, 1));
    }

    private static void game() {
        says("IX: it GETS 5 for each THING that it has on the last DAY, less 3, if it builds");
        String things = "thing weighs 0 at 0 0 for 0;".repeat(6);
        WindSigned w = told("plain days 1 law 0 odds 5 wide 9 high 2;house 0 0;house 8 0;" + things);
        due(of(30, 27, 0, -3), w.gets(0, 1, 0, 0), w.gets(0, 1, 1, 0), w.gets(1, 0, 0, 0), w.gets(1, 0, 1, 0));
        due(of(1, 1), w.rests(0, 1), w.rests(1, 0));
        says("IX: if there is one, it stays");
        w = told("plain days 1 law 0 odds 5 wide 9 high 2;house 0 0;house 8 0;thing weighs 0 at 1 0 for 0;shelter 0 0;"
                + "wind 1 40 at 0;");
        due(of(5, 2, 5, 2), w.gets(0, 1, 0, 0), w.gets(0, 1, 1, 0), w.gets(0, 1, 0, 1), w.gets(0, 1, 1, 1));
        due(of(1, 1, 10), w.rests(0, 1), w.worth(1), w.at(0, 1));
        says("IX: REST: neither GETS more by the other choice alone");
        // The first keeps the thing, if it builds: 2, not 0. If the other one does, the thing is stopped ahead of it.
        String text = "plain days 1 law 0 odds 5 wide 4 high 2;house 0 0;house 3 0;thing weighs 0 at 1 0 for 0;"
                + "wind 1 40 at 0;";
        w = told(text);
        due(of(0, 2, 0, 2), w.gets(0, 1, 0, 0), w.gets(0, 1, 1, 0), w.gets(0, 1, 0, 1), w.gets(0, 1, 1, 1));
        due(of(5, 0, 2, -3), w.gets(1, 0, 0, 0), w.gets(1, 0, 0, 1), w.gets(1, 0, 1, 0), w.gets(1, 0, 1, 1));
        due(of(2, 4), w.rests(0, 1), w.rests(1, 0));
    }

    private static void chances() {
        says("X: with odds in ten, by itself; FRACTIONS are told in lowest terms (0 / 1)");
        String head = strip(0, 9, 0, 0);
        long[][] once = {{0, 1}, {1, 10}, {1, 5}, {3, 10}, {2, 5}, {1, 2}, {3, 5}, {7, 10}, {4, 5}, {9, 10}, {1, 1}};
        for (int odds = 0; odds <= 10; odds++) {
            WindSigned w = told(head.replace("odds 5", "odds " + odds) + "wind 1 1 at 0;");
            due(once[odds], w.chance(0, 0), w.chance(0, 1));
            due(once[odds], w.mean(0, 0), w.mean(0, 1));
            // No wind told: nothing is by chance.
            w = told(head.replace("odds 5", "odds " + odds));
            due(of(0, 1, 0, 1), w.chance(0, 0), w.chance(0, 1), w.mean(0, 0), w.mean(0, 1));
            w.blows(1, 1, 0);
            due(of(1, 1, 1, 1), w.chance(0, 0), w.chance(0, 1), w.mean(0, 0), w.mean(0, 1));
        }
        says("X: nine WINDS");
        for (int odds = 0; odds <= 10; odds++) {
            WindSigned w = told("plain days 1 law 2 odds " + odds + " wide 9 high 2;house 0 0;"
                    + "thing weighs 0 at 0 0 for 0;" + "wind 1 40 at 0;".repeat(9));
            // Each of them goes 14 steps, if it blows: 126 times the odds of one in the mean.
            BigInteger stays = BigInteger.valueOf(10 - odds).pow(9);
            BigInteger all = BigInteger.TEN.pow(9);
            BigInteger common = all.subtract(stays).gcd(all);
            due(of(all.subtract(stays).divide(common).longValue(), all.divide(common).longValue()), w.chance(0, 0),
                    w.chance(0, 1));
            BigInteger steps = BigInteger.valueOf(126L * odds);
            BigInteger part = steps.gcd(BigInteger.TEN);
            due(of(steps.divide(part).longValue(), 10 / part.longValue()), w.mean(0, 0), w.mean(0, 1));
        }
    }

    private static void draws() {
        says("X: x becomes (1103515245 x + 12345) modulo 2,147,483,648; a draw: x / 65536, cut, modulo 10");
        BigInteger modulus = BigInteger.valueOf(2147483648L);
        int[] seeds = {0, 1, 2, 9, 10, 65535, 65536, 123456789, 1073741823, 1073741824, 1999999999, 2000000000};
        for (int odds = 0; odds <= 10; odds++) {
            WindSigned w = told("plain days 1 law 0 odds " + odds + " wide 9 high 2;house 0 0;"
                    + "thing weighs 0 at 0 0 for 0;" + "wind 1 1 at 0;".repeat(9));
            for (int seed : seeds) {
                BigInteger x = BigInteger.valueOf(seed);
                int bits = 0;
                for (int wind = 0; wind < 9; wind++) {
                    x = x.multiply(BigInteger.valueOf(1103515245)).add(BigInteger.valueOf(12345)).mod(modulus);
                    int draw = x.shiftRight(16).mod(BigInteger.TEN).intValue();
                    bits |= draw < odds ? 1 << wind : 0;
                }
                due(of(bits, bits != 0 ? 1 : 0), w.drawn(seed, 0), w.drawn(seed, 1));
                due(bits != 0 ? 1 : 0, w.luck(seed, 1, 0), "luck(" + seed + ", 1, 0)");
            }
        }
        says("X: below odds it blows: with none never, with ten always");
        due(0, told(strip(0, 9, 0, 0).replace("odds 5", "odds 0") + "wind 1 1 at 0;").drawn(0, 0));
        // From seed 0 the first draw is 0: 12345 / 65536, cut.
        due(1, told(strip(0, 9, 0, 0).replace("odds 5", "odds 1") + "wind 1 1 at 0;").drawn(0, 0));
        due(1, told(strip(0, 9, 0, 0).replace("odds 5", "odds 10") + "wind 1 1 at 0;").drawn(0, 0));
    }
}
