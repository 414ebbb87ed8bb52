/** The promises of the document one by one, with answers worked out by hand. */
public final class PromiseTest extends Asking {
    /**
     * Where things lie, day 0 to 4. Thing 0: 11, 11, 3, 3, 3 (stopped at once in day 0 by the shelter in 21).
     * Thing 1: 40, 40, 31, 31, 31. Thing 2: 22, 42, 43, 43, 42 (in day 1 the shelter in 33 stops it at once).
     */
    private static final String VALE = "plain days 4 law 0 odds 5 wide 5 high 4;house 0 0;house 4 3;"
            + "shelter 2 1;shelter 3 3;thing weighs 3 at 1 1 for 1;thing weighs 10 at 4 0 for 0;"
            + "thing weighs 0 at 2 2 for 1;wind 1 9 at 0;wind 2 12 at 1;wind 3 20 at 1;wind 0 2 at 3;";

    /** The first shelter, and one of the others, keep the thing. */
    private static final String NOOK = "plain days 2 law 1 odds 3 wide 3 high 3;house 0 0;house 2 2;"
            + "shelter 0 1;shelter 1 2;shelter 1 0;thing weighs 2 at 1 1 for 0;wind 1 5 at 0;wind 0 5 at 1;";

    /** Each of the houses can keep the thing in the middle, where the first has it; the wind takes it to the other. */
    private static final String LANE = "plain days 1 law 0 odds 10 wide 3 high 2;house 0 0;house 2 0;"
            + "thing weighs 0 at 1 0 for 1;wind 1 1 at 0;";

    private static final String BARE = "plain days 3 law 2 odds 0 wide 2 high 9;";

    public static void main(String[] args) {
        newObject();
        tape();
        faultsOfTheFirstLine();
        faultsOfOtherLines();
        faultsOfNumber();
        tellingAnew();
        whatWasTold();
        laws();
        places();
        houses();
        together();
        winds();
        keeping();
        blowing();
        blaming();
        guessing();
        guessingWrongly();
        byLaws();
        shares();
        game();
        chances();
        acts();
        actsRefused();
        years();
        ratesAndCounts();
        images();
        slots();
        emptyPlain();
        noPlain();
        finish("PromiseTest");
    }

    private static void promise(int number) {
        says("promise " + number);
    }

    private static void fault(int kind, int place, String text) {
        WindSigned w = told(VALE);
        feed(w, text);
        due(kind == 0 ? 0 : -4, Math.min(0, w.plain()), "plain() of " + text);
        due(kind, w.fault(0), "fault(0) of " + text);
        due(place, w.fault(1), "fault(1) of " + text);
        if (kind != 0) {
            due(text.length(), w.count(11), "count(11) behind a fault");
            due(12, w.count(10), "count(10) behind a fault");
            due(3, w.at(0, 4), "at(0, 4) behind a fault");
        }
    }

    private static void newObject() {
        promise(1);
        WindSigned w = new WindSigned();
        due(-1, WindSigned.NONE);
        for (int what = 0; what <= 12; what++) {
            due(0, w.count(what), "count(" + what + ")");
        }
        due(of(0, -1, -1, -1), w.fault(0), w.fault(1), w.fault(2), w.fault(-1));
        due(of(-6, -6, -6), w.back(0), w.back(1), w.back(2));
    }

    private static void tape() {
        promise(2);
        WindSigned w = new WindSigned();
        for (int i = 1; i <= 35; i++) {
            due(20 * i, w.feed(0x20202020, 0x0a0a0a0a, 0x20202020, 0x20202020, 0x20202020), "feed");
        }
        due(of(-1, 700), w.feed(0, 0, 0, 0, 0), w.count(11));
        due(of(681, -1, 681), w.end(681), w.feed(0, 0, 0, 0, 0), w.count(11));
        due(of(680, 700), w.end(680), w.feed(0x20202020, 0x20202020, 0x20202020, 0x20202020, 0x20202020));
        due(of(0, 0), w.plain(), w.count(11));
        // The highest byte comes first: p l a i, n _ d a, y s _ 1, _ l a w, _ 0 _ o.
        due(20, w.feed(0x706c6169, 0x6e206461, 0x79732031, 0x206c6177, 0x2030206f));
        due(40, w.feed(0x64647320, 0x32207769, 0x64652033, 0x20686967, 0x6820343b));
        due(of(1, 1, 0, 2, 3, 4), w.plain(), w.count(0), w.count(1), w.count(2), w.count(3), w.count(4));
        due(20, w.feed(0x706c6169, 0x6e2064ff, 0x80808080, -1, Integer.MIN_VALUE));
        due(of(-4, 1, 6), w.plain(), w.fault(0), w.fault(1));
        promise(3);
        due(of(-1, -1, 20, 13, 13, -1, 0), w.end(21), w.end(-1), w.end(20), w.end(13), w.end(13), w.end(14),
                w.end(0));
        due(of(-1, -1, 0), w.end(1), w.end(Integer.MIN_VALUE), w.end(0));
    }

    private static void faultsOfTheFirstLine() {
        promise(5);
        fault(0, -1, "");
        fault(0, -1, " \n ");
        fault(0, -1, VALE);
        fault(0, -1, "plain days14law3odds10wide9high9;");
        fault(0, -1, "\n plain\ndays 0001 law 0 odds 0 wide 2 high 2 ; ");
        fault(1, 0, ";");
        fault(1, 1, " 7");
        fault(1, 0, "house 0 0;" + BARE);
        fault(1, 0, "plains days 3 law 2 odds 0 wide 2 high 9;");
        fault(1, 0, "Plain days 3 law 2 odds 0 wide 2 high 9;");
        fault(1, 5, "plain");
        fault(1, 8, "plain   ");
        fault(1, 6, "plain 3 law 2 odds 0 wide 2 high 9;");
        fault(1, 11, "plain days -1 law 2 odds 0 wide 2 high 9;");
        fault(1, 11, "plain days ;");
        fault(1, 13, "plain days 3 odds 0 wide 2 high 9;");
        fault(1, 39, "plain days 3 law 2 odds 0 wide 2 high 9,;");
        fault(1, 39, "plain days 3 law 2 odds 0 wide 2 high 9");
        fault(1, 41, "plain days 3 law 2 odds 0 wide 2 high 9  ");
        fault(1, 5, "plain\tdays 3 law 2 odds 0 wide 2 high 9;");
        fault(1, 5, "plain\u0000days 3 law 2 odds 0 wide 2 high 9;");
        fault(1, 40, BARE + ";");
        fault(1, 40, BARE + BARE);
        fault(1, 41, BARE + " stone 1 1;");
        fault(1, 40, BARE + "\u00e9");
    }

    private static void faultsOfOtherLines() {
        promise(5);
        fault(1, 40, BARE + "houses 0 0;");
        fault(1, 40, BARE + "housez 0 0;");
        fault(1, 40, BARE + "mouse 0 0;");
        fault(1, 40, BARE + "hous 0 0;");
        fault(1, 46, BARE + "house ;");
        fault(1, 47, BARE + "house 0;");
        fault(1, 49, BARE + "house 0 0");
        fault(1, 49, BARE + "house 0 0house 1 1;");
        fault(1, 47, BARE + "house 0-0;");
        fault(1, 46, BARE + "thing at 0 0 for 0;");
        fault(1, 55, BARE + "thing weighs 3 0 0 for 0;");
        fault(1, 62, BARE + "thing weighs 3 at 0 0 to 0;");
        fault(1, 45, BARE + "wind x 3 at 0;");
        fault(1, 49, BARE + "wind 0 3 on 0;");
        fault(1, 45, BARE + "wind\n;");
        // A number wants its longest run of digits, a word its longest run of letters.
        fault(1, 51, BARE + "house 0 0; housethis 1 1;");
        fault(0, -1, BARE + "house0 0;shelter 0 0;thing weighs3at0 0for0;wind2 9at13;");
    }

    private static void faultsOfNumber() {
        promise(5);
        fault(2, 11, "plain days 0 law 2 odds 0 wide 2 high 9;");
        fault(2, 11, "plain days 15 law 2 odds 0 wide 2 high 9;");
        fault(2, 11, "plain days 99999999999999999999999 law 2 odds 0 wide 2 high 9;");
        fault(2, 11, "plain days 4294967299 law 2 odds 0 wide 2 high 9;");
        fault(2, 17, "plain days 3 law 4 odds 0 wide 2 high 9;");
        fault(2, 24, "plain days 3 law 2 odds 11 wide 2 high 9;");
        fault(2, 31, "plain days 3 law 2 odds 0 wide 1 high 9;");
        fault(2, 31, "plain days 3 law 2 odds 0 wide 10 high 9;");
        fault(2, 38, "plain days 3 law 2 odds 0 wide 2 high 1;");
        fault(2, 38, "plain days 3 law 2 odds 0 wide 2 high 10;");
        fault(2, 46, BARE + "house 2 0;");
        fault(2, 48, BARE + "house 1 9;");
        fault(2, 48, BARE + "shelter 2 0;");
        fault(2, 58, BARE + "house 1 8;house 1 8;");
        fault(2, 62, BARE + "shelter 1 8;shelter 1 8;");
        fault(0, -1, BARE + "house 1 8;shelter 1 8;thing weighs 0 at 1 8 for 0;thing weighs 30 at 1 8 for 0;");
        fault(2, 53, BARE + "thing weighs 31 at 0 0 for 0;");
        fault(2, 58, BARE + "thing weighs 9 at 2 0 for 0;");
        fault(2, 60, BARE + "thing weighs 9 at 1 9 for 0;");
        fault(2, 66, BARE + "thing weighs 9 at 1 8 for 0;house 0 0;");
        fault(2, 76, BARE + "house 0 0;thing weighs 9 at 1 8 for 1;house 1 1;");
        fault(2, 45, BARE + "wind 4 3 at 0;");
        fault(2, 47, BARE + "wind 3 0 at 0;");
        fault(2, 47, BARE + "wind 3 41 at 0;");
        fault(2, 52, BARE + "wind 3 9 at 14;");
        fault(0, -1, BARE + "wind 0 1 at 0;wind 3 40 at 13;");
        StringBuilder houses = new StringBuilder(BARE);
        for (int i = 0; i < 6; i++) {
            houses.append("house 0 ").append(i).append(';');
        }
        fault(0, -1, houses.toString());
        fault(3, 101, houses + " house x 0;");
        StringBuilder shelters = new StringBuilder(BARE);
        for (int i = 0; i < 8; i++) {
            shelters.append("shelter 0 ").append(i).append(';');
        }
        fault(0, -1, shelters.toString());
        fault(3, 136, shelters + "shelter 0 0;");
        String things = BARE + "house 0 0;" + "thing weighs 1 at 0 0 for 0;".repeat(6);
        fault(0, -1, things);
        fault(3, 218, things + "thing;");
        String winds = BARE + "wind 0 1 at 0;".repeat(9);
        fault(0, -1, winds);
        fault(3, 166, winds + "wind 9 9 at 9;");
        fault(2, 52, winds.replaceFirst("at 0", "at 14") + "wind 9 9 at 9;");
    }

    private static void tellingAnew() {
        promise(4);
        WindSigned w = told(VALE);
        due(of(12, 0, 0, -1), w.count(10), w.count(11), w.fault(0), w.fault(1));
        w.blows(1, 40, 0);
        w.rate(0, 1);
        due(1, w.count(9));
        feed(w, VALE.substring(0, VALE.length() - 1));
        due(of(-4, 1, VALE.length() - 1), w.plain(), w.fault(0), w.fault(1));
        due(of(1, VALE.length() - 1, 12), w.count(9), w.count(11), w.count(10));
        feed(w, ";");
        due(of(12, 0, -1, 0, 0), w.plain(), w.fault(0), w.fault(1), w.count(9), w.count(11));
        feed(w, BARE);
        due(of(1, 3, 2, 0, 0), w.plain(), w.count(0), w.count(1), w.count(5), w.count(8));
        due(of(0, 0, 0, -2), w.plain(), w.count(10), w.count(3), w.heir());
    }

    private static void whatWasTold() {
        WindSigned w = told(VALE);
        promise(6);
        due(of(0, 43, -2, -2), w.house(0), w.house(1), w.house(2), w.house(-1));
        promise(7);
        due(of(21, 33, -2, -2), w.shelter(0), w.shelter(1), w.shelter(2), w.shelter(-1));
        promise(8);
        due(of(3, 11, 1), w.thing(0, 0), w.thing(0, 1), w.thing(0, 2));
        due(of(10, 40, 0), w.thing(1, 0), w.thing(1, 1), w.thing(1, 2));
        due(of(-2, -2, -2, -2), w.thing(3, 0), w.thing(-1, 0), w.thing(0, 3), w.thing(0, -1));
        promise(9);
        due(of(3, 20, 1), w.wind(2, 0), w.wind(2, 1), w.wind(2, 2));
        due(of(0, 2, 3), w.wind(3, 0), w.wind(3, 1), w.wind(3, 2));
        due(of(-2, -2, -2, -2), w.wind(4, 0), w.wind(-1, 0), w.wind(0, 3), w.wind(0, -1));
    }

    /** One thing in the middle of a row of five cells, and a wind to the right. */
    private static WindSigned row(int law, String more, int force) {
        return told("plain days 1 law " + law + " odds 0 wide 5 high 2;house 0 0;" + more
                + "thing weighs 4 at 2 0 for 0;wind 1 " + force + " at 0;");
    }

    private static void laws() {
        promise(10);
        // Four is not more than four; five to six a step, seven to nine two, ten to twelve three.
        int[] forces = {4, 5, 6, 7, 9, 10, 12, 13, 16, 19, 22, 25, 40};
        int[][] cells = {
            {20, 30, 30, 40, 40, 40, 40, 40, 40, 40, 40, 40, 40},
            {20, 30, 30, 40, 40, -1, -1, -1, -1, -1, -1, -1, -1},
            {20, 30, 30, 40, 40, 0, 0, 10, 20, 30, 40, 0, 0},
            {20, 30, 30, 40, 40, 30, 30, 20, 10, 0, 10, 20, 10},
        };
        int[][] steps = {
            {0, 1, 1, 2, 2, 2, 2, 2, 2, 2, 2, 2, 2},
            {0, 1, 1, 2, 2, 3, 3, 3, 3, 3, 3, 3, 3},
            {0, 1, 1, 2, 2, 3, 3, 4, 5, 6, 7, 8, 13},
            {0, 1, 1, 2, 2, 3, 3, 4, 5, 6, 7, 8, 13},
        };
        for (int law = 0; law < 4; law++) {
            for (int i = 0; i < forces.length; i++) {
                WindSigned w = row(law, "", forces[i]);
                String call = "law " + law + ", force " + forces[i];
                due(cells[law][i], w.at(0, 1), call);
                due(steps[law][i], w.steps(0, 0), call);
                due(steps[law][i] > 0 ? 0 : -1, w.received(0), call);
            }
        }
        for (int law = 0; law < 4; law++) {
            String call = "law " + law;
            // A shelter in the lee of which it lies; one in the next cell; one behind that; one where it lies.
            due(20, row(law, "shelter 1 0;", 40).at(0, 1), call);
            due(-1, row(law, "shelter 1 0;", 40).received(0), call);
            due(20, row(law, "shelter 3 0;", 40).at(0, 1), call);
            due(-1, row(law, "shelter 3 0;", 40).received(0), call);
            due(30, row(law, "shelter 4 0;", 40).at(0, 1), call);
            due(law == 0 ? 40 : law == 1 ? -1 : law == 2 ? 0 : 30, row(law, "shelter 2 0;", 10).at(0, 1), call);
            due(law == 1 ? -1 : law == 3 ? 30 : 40, row(law, "shelter 0 0;", 10).at(0, 1), call);
            due(law == 1 ? 3 : law == 3 ? 3 : 2, row(law, "shelter 0 0;", 10).steps(0, 0), call);
            // To and fro it does not come to the cell of the shelter at the other edge.
            due(law == 1 ? -1 : law == 3 ? 10 : 40, row(law, "shelter 0 0;", 40).at(0, 1), call);
        }
        // At the edge, blown against it, and with a shelter in the cell from which the wind comes.
        for (int law = 0; law < 4; law++) {
            String text = "plain days 1 law " + law + " odds 0 wide 3 high 3;house 0 0;thing weighs 0 at 1 0 for 0;"
                    + "wind 0 3 at 0;";
            due(of(10, -1, 11, 12)[law], told(text).at(0, 1), text);
            due(of(0, 1, 2, 2)[law], told(text).steps(0, 0), text);
            due(of(-1, 0, 0, 0)[law], told(text).received(0), text);
            due(10, told(text + "shelter 1 1;").at(0, 1), text);
            due(0, told(text + "shelter 1 1;").steps(0, 0), text);
        }
        // Beyond the edge there is no shelter, not even by law 2, where the other edge would be next.
        WindSigned around = told("plain days 1 law 2 odds 0 wide 3 high 3;house 0 0;shelter 0 2;"
                + "thing weighs 0 at 0 0 for 0;wind 2 40 at 0;");
        due(of(0, 1, 1), around.received(0), around.at(0, 1), around.steps(0, 0));
        // A step to the edge and one more, in all four directions.
        int[] nearEdge = {11, 22, 12, 12};
        int[][] behindEdge = {{13, 11}, {2, 22}, {10, 12}, {32, 12}};
        for (int d = 0; d < 4; d++) {
            for (int law = 2; law < 4; law++) {
                WindSigned w = told("plain days 1 law " + law + " odds 0 wide 4 high 4;house 0 0;thing weighs 0 at "
                        + nearEdge[d] / 10 + " " + nearEdge[d] % 10 + " for 0;wind " + d + " 3 at 0;");
                due(behindEdge[d][law - 2], w.at(0, 1), "law " + law + ", direction " + d);
                due(2, w.steps(0, 0), "law " + law + ", direction " + d);
            }
        }
        // All four directions.
        int[] ends = {11, 32, 13, 12};
        int[] begins = {12, 22, 12, 22};
        for (int d = 0; d < 4; d++) {
            WindSigned w = told("plain days 1 law 0 odds 0 wide 9 high 9;house 0 0;thing weighs 0 at "
                    + begins[d] / 10 + " " + begins[d] % 10 + " for 0;wind " + d + " 1 at 0;");
            due(ends[d], w.at(0, 1), "direction " + d);
        }
    }

    private static void places() {
        WindSigned w = told(VALE);
        promise(10);
        due(of(11, 11, 3, 3, 3), w.at(0, 0), w.at(0, 1), w.at(0, 2), w.at(0, 3), w.at(0, 4));
        due(of(40, 40, 31, 31, 31), w.at(1, 0), w.at(1, 1), w.at(1, 2), w.at(1, 3), w.at(1, 4));
        due(of(22, 42, 43, 43, 42), w.at(2, 0), w.at(2, 1), w.at(2, 2), w.at(2, 3), w.at(2, 4));
        due(of(-2, -2, -2, -2), w.at(3, 0), w.at(-1, 0), w.at(0, 5), w.at(0, -1));
        promise(11);
        due(of(4, 2, 1, 0), w.here(42, 1), w.here(31, 2), w.here(3, 2), w.here(0, 0));
        due(of(-2, -2, -2, -2, -2, -2), w.here(50, 0), w.here(4, 0), w.here(-1, 0), w.here(11, 5), w.here(11, -1),
                w.here(Integer.MAX_VALUE, 0));
        promise(12);
        due(of(4, 7, 0, 4, -2, -2), w.moved(0), w.moved(1), w.moved(2), w.moved(3), w.moved(4), w.moved(-1));
        promise(13);
        due(of(0, 3, 0, 0), w.steps(0, 0), w.steps(0, 1), w.steps(0, 2), w.steps(0, 3));
        due(of(2, 2, 1, 1), w.steps(1, 1), w.steps(2, 0), w.steps(2, 1), w.steps(2, 3));
        due(of(-2, -2, -2, -2), w.steps(3, 0), w.steps(-1, 0), w.steps(0, 4), w.steps(0, -1));
        promise(14);
        due(of(3, 2, 4, -2, -2), w.worn(0), w.worn(1), w.worn(2), w.worn(3), w.worn(-1));
        promise(15);
        due(of(1, 1, 0, -2, -2), w.received(0), w.received(1), w.received(2), w.received(3), w.received(-1));
        due(-1, told(NOOK).received(0));
        promise(16);
        due(of(0, 4, 7, 7, 7, -2, -2), w.signed(0), w.signed(1), w.signed(2), w.signed(3), w.signed(4), w.signed(5),
                w.signed(-1));
        promise(17);
        due(of(2, 2, 1, -2, -2), w.waits(0), w.waits(1), w.waits(2), w.waits(3), w.waits(-1));
        // Back in the cell told it waits there again.
        w.brings(2, 22, 1);
        due(4, w.waits(2));
        promise(18);
        due(2, w.heir());
        w.anew();
        due(0, w.heir());
        due(-1, told(BARE).heir());
        promise(19);
        due(of(0, 0, -2, -2), w.gone(0), w.gone(4), w.gone(5), w.gone(-1));
        WindSigned away = told(VALE.replace("law 0", "law 1"));
        due(of(0, 4, 5, 5, 5), away.gone(0), away.gone(1), away.gone(2), away.gone(3), away.gone(4));
        due(of(-1, 3, 3, 0), away.at(0, 2), away.steps(0, 1), away.worn(2), away.steps(2, 1));
    }

    private static void houses() {
        WindSigned w = told(VALE);
        WindSigned away = told(VALE.replace("law 0", "law 1"));
        promise(20);
        due(of(0, 0, 1, 1, 1, 1), w.had(0, 0), w.had(0, 4), w.had(1, 0), w.had(1, 4), w.had(2, 0), w.had(2, 4));
        due(of(-2, -2, -2, -2, -1), w.had(3, 0), w.had(-1, 0), w.had(0, 5), w.had(0, -1), away.had(0, 2));
        // As near to both: the first.
        due(of(1, 0), told(LANE).had(0, 1), told(LANE).had(0, 0));
        promise(21);
        due(of(1, 6, 1, 6), w.has(0, 0), w.has(1, 0), w.has(0, 4), w.has(1, 4));
        due(of(0, 2), away.has(0, 4), away.has(1, 4));
        due(of(-2, -2, -2, -2), w.has(2, 0), w.has(-1, 0), w.has(0, 5), w.has(0, -1));
        promise(22);
        due(of(4, 4, 0, 0, 1), w.right(0), w.right(4), away.right(1), told(LANE).right(0), told(LANE).right(1));
        due(of(-2, -2), w.right(5), w.right(-1));
        promise(23);
        due(of(1, 1, 0, -2, -2), w.rich(0), w.rich(4), told(LANE).rich(0), w.rich(5), w.rich(-1));
        due(of(-1, -2, 0), told(BARE).rich(3), told(BARE).rich(4), told(BARE + "house 0 0;house 1 0;").rich(0));
        promise(24);
        due(of(-1, -1, 0, 1), w.home(0), w.home(1), w.home(2), told(LANE).home(0));
        due(of(-2, -2), w.home(3), w.home(-1));
    }

    private static void together() {
        WindSigned w = told(VALE);
        WindSigned away = told(VALE.replace("law 0", "law 1"));
        promise(25);
        due(of(3, 2, 3, 0, -2, -2), w.far(0), w.far(1), w.far(2), told(NOOK).far(0), w.far(3), w.far(-1));
        due(of(0, 2), away.far(2), away.far(1));
        w.brings(1, 3, 3);
        due(7, w.far(1));
        w.undo();
        promise(26);
        due(of(4, 2, 0, -1), w.apart(0, 1, 0), w.apart(1, 2, 1), w.apart(0, 0, 3), away.apart(2, 2, 4));
        due(of(-2, -2, -2, -2), w.apart(3, 0, 0), w.apart(0, 3, 0), w.apart(0, 1, 5), w.apart(0, -1, 0));
        due(of(-1, -1), away.apart(0, 1, 4), away.apart(1, 0, 4));
        promise(27);
        due(of(-1, 0, -2, -2), w.meet(0, 1), w.meet(1, 1), w.meet(3, 0), w.meet(0, -1));
        w.brings(1, 42, 0);
        due(of(1, 1), w.meet(1, 2), w.meet(2, 1));
        // Those that are gone lie in no cell.
        due(-1, away.meet(0, 2));
        promise(28);
        due(of(1, 2, 2, -2, -2), w.heap(0), w.heap(1), w.heap(1), w.heap(5), w.heap(-1));
        due(of(1, 0), away.heap(4), told(BARE).heap(0));
        WindSigned many = told("plain days 1 law 0 odds 0 wide 3 high 3;house 0 0;" + "thing weighs 0 at 1 0 for 0;".repeat(6));
        due(of(6, 63, 63, 63, 0), many.heap(0), many.here(10, 0), many.edge(0), many.has(0, 1), many.gone(1));
        due(of(1, 1), told(LANE).heap(0), told(LANE).heap(1));
        // They meet in the last day.
        WindSigned late = told(LANE + "thing weighs 9 at 2 0 for 0;");
        due(of(1, -1), late.meet(0, 1), told(LANE + "thing weighs 9 at 0 0 for 0;").meet(0, 1));
        promise(29);
        w.brings(0, 21, 2);
        w.brings(2, 33, 2);
        due(of(0, 0, 5), w.under(0), w.under(2), w.under(3));
        due(of(-2, -2), w.under(5), w.under(-1));
        w.anew();
        promise(30);
        due(of(2, 6, 5, -2, -2, 0), w.edge(0), w.edge(1), w.edge(2), w.edge(5), w.edge(-1), away.edge(4));
        promise(31);
        due(of(0, 1, 1, -2, -2), w.mostly(0), w.mostly(1), w.mostly(2), w.mostly(3), w.mostly(-1));
        due(of(0, 0), told(LANE).mostly(0), away.mostly(0));
        due(of(0, 1), told(LANE).mostly(0), told(LANE.replace("days 1", "days 2")).mostly(0));
        promise(32);
        due(of(8, 4, 2, 2, 0, 0), w.lee(0, 0), w.lee(2, 0), w.lee(1, 2), w.lee(2, 2), w.lee(0, 4), away.lee(0, 4));
        due(of(7, 7), told(NOOK).lee(0, 0), told(NOOK).lee(0, 2));
        due(of(-2, -2, -2, -2), w.lee(3, 0), w.lee(-1, 0), w.lee(0, 5), w.lee(0, -1));
    }

    private static void winds() {
        WindSigned w = told(VALE);
        promise(33);
        due(of(4, 7, 0), w.lulls(), told(BARE).lulls(), told(NOOK).lulls());
        promise(34);
        due(of(1, 3, 0), w.lull(), told(BARE).lull(), told(NOOK).lull());
        WindSigned calm = told("plain days 9 law 0 odds 5 wide 2 high 2;wind 0 1 at 2;wind 0 1 at 12;wind 0 1 at 7;");
        due(of(0x17b, 4), calm.lulls(), calm.lull());
        promise(35);
        due(of(9, 20, 0, 2, -2, -2), w.force(0), w.force(1), w.force(2), w.force(3), w.force(4), w.force(-1));
        promise(36);
        due(of(1, -1, 0, -1), w.gale(), told(BARE).gale(), told(LANE).gale(), told(NOOK).gale());
        promise(37);
        due(of(6, 6, 11, -2, -2), w.movers(0), w.movers(1), w.movers(2), w.movers(3), w.movers(-1));
        promise(38);
        due(of(4, 7, 3, 4, -2, -2), w.moves(0), w.moves(1), w.moves(2), w.moves(3), w.moves(4), w.moves(-1));
        promise(39);
        due(of(0, 3, 7), w.idle(), told(NOOK).idle(), calm.idle());
        promise(40);
        due(of(7, 1, 2, 0), w.strewn(), told(NOOK).strewn(), told(LANE).strewn(), told(BARE).strewn());
        due(2, told(LANE.replace("at 1 0 for", "at 0 0 for")).strewn());
        // Winds of acts blow and move, but none of them is a wind told.
        w.blows(1, 40, 2);
        promise(33);
        due(of(0, 0, 40), w.lulls(), w.lull(), w.force(2));
        promise(37);
        due(of(6, 6, 11, -2), w.movers(0), w.movers(1), w.movers(2), w.moves(4));
    }

    private static void keeping() {
        WindSigned w = told(VALE);
        promise(41);
        due(of(1, 2, 1, 0), w.keep(0), w.keep(1), w.keep(2), told(NOOK).keep(0));
        due(of(-2, -2), w.keep(3), w.keep(-1));
        promise(42);
        due(of(1, 12, 2, 0), w.keeps(0), w.keeps(1), w.keeps(2), told(NOOK).keeps(0));
        due(of(-2, -2), w.keeps(3), w.keeps(-1));
        // Where a shelter is told, and beyond the edge, none is built: one cell is left.
        WindSigned corner = told("plain days 1 law 3 odds 0 wide 2 high 2;house 0 0;shelter 0 0;"
                + "thing weighs 0 at 0 1 for 0;wind 1 9 at 0;");
        due(of(1, 2), corner.keep(0), corner.keeps(0));
        corner.blows(2, 9, 0);
        due(of(1, 2), corner.keep(0), corner.keeps(0));
        // One is fewer than two, though its number is greater.
        due(of(1, 8), told("plain days 2 law 0 odds 0 wide 3 high 3;house 0 0;thing weighs 0 at 2 1 for 0;"
                + "wind 3 9 at 0;wind 3 5 at 1;").keep(0), told("plain days 2 law 0 odds 0 wide 3 high 3;house 0 0;"
                + "thing weighs 0 at 2 1 for 0;wind 3 9 at 0;wind 3 5 at 1;").keeps(0));
        due(of(2, 3), told("plain days 2 law 0 odds 0 wide 3 high 3;house 0 0;thing weighs 0 at 1 1 for 0;"
                + "wind 3 9 at 0;wind 2 5 at 1;").keep(0), told("plain days 2 law 0 odds 0 wide 3 high 3;house 0 0;"
                + "thing weighs 0 at 1 1 for 0;wind 3 9 at 0;wind 2 5 at 1;").keeps(0));
        // Brought elsewhere it is moved there, whatever stands beside the cell told.
        w.brings(1, 32, 0);
        due(of(-1, -1), w.keep(1), w.keeps(1));
    }

    private static void blowing() {
        WindSigned w = told(VALE);
        promise(43);
        due(of(4, 1, -1), w.blow(0, 1, 3, 1), w.blow(0, 0, 3, 1), w.blow(0, 1, 0, 2));
        due(of(-2, -2, -2), w.blow(3, 0, 0, 0), w.blow(0, 2, 0, 0), w.blow(0, 1, 4, 0));
        due(of(-2, -2, -2, -2), w.blow(0, 1, 0, 4), w.blow(0, 1, 0, -1), w.blow(-1, 0, 0, 0), w.blow(0, -1, 0, 0));
        due(of(-2, 0), w.blow(0, 0, -1, 0), w.count(9));
        promise(44);
        due(of(11, 0, -2, -2, -2), w.bring(0, 1), w.bring(0, 0), w.bring(3, 0), w.bring(0, 2), w.bring(-1, 0));
        // The wind comes behind all others of the day, and ahead of what is brought back.
        w.brings(0, 3, 3);
        due(of(-1, 1, -1), w.blow(0, 1, 3, 1), w.blow(0, 0, 3, 1), w.bring(0, 1));
        due(-1, told("plain days 1 law 0 odds 0 wide 2 high 2;house 0 0;house 1 1;thing weighs 30 at 0 0 for 0;"
                + "shelter 0 1;shelter 1 0;").bring(0, 1));
        // The least and the greatest force there is.
        WindSigned wide = told("plain days 1 law 0 odds 0 wide 9 high 2;house 0 0;house 8 0;thing weighs 28 at 0 0 for 0;"
                + "thing weighs 28 at 0 1 for 0;");
        due(of(40, 1, 1), wide.blow(0, 1, 0, 1), wide.bring(1, 1), wide.blow(1, 0, 0, 1));
        wide.rate(0, 29);
        due(of(-1, -1), wide.blow(0, 1, 0, 1), wide.bring(0, 1));
        // Three steps are wanted: nine more than it weighs were four, six more are three.
        due(of(16, 15), told("plain days 1 law 0 odds 0 wide 9 high 2;house 0 0;house 6 0;thing weighs 10 at 1 0 for 0;")
                .blow(0, 1, 0, 1), told("plain days 1 law 0 odds 0 wide 9 high 2;house 0 0;house 5 0;"
                + "thing weighs 9 at 0 0 for 0;").blow(0, 1, 0, 1));
    }

    private static void blaming() {
        promise(45);
        due(of(2, -1, -1), told(VALE).blame(), told(NOOK).blame(), told(BARE).blame());
        due(of(-1, 0), told(LANE).blame(), told(LANE.replace("for 1", "for 0")).blame());
        // Winds of acts stay: here one takes thing 0 back to where the wind had taken it.
        WindSigned w = told(VALE);
        w.blows(3, 4, 2);
        due(-1, w.blame());
        promise(46);
        due(of(0, -1, -1), told(VALE).burden(), told(NOOK).burden(), told(BARE).burden());
        due(of(0, 1), told(LANE + "shelter 0 0;").burden(), told(LANE + "shelter 2 1;shelter 0 0;").burden());
    }

    private static void guessing() {
        promise(47);
        WindSigned w = told(VALE);
        row(w, 0, 0, 2, 31);
        due(of(2, 10, 11, -1, 2, 15), guesses(w, 0, 1));
        row(w, 0, 3, 2, 43);
        due(of(7, 0, 6, 4, 5, 0), guesses(w, 0, 1));
        row(w, 0, 2, 2, 43, 4, 42);
        due(of(2, 0, 1, -1, 2, 0), guesses(w, 0, 1));
        row(w, 0, 1);
        due(of(31, 0, 30, 2, 11, 15), guesses(w, 0, 1));
        row(w, 0, 1, 0, 22);
        due(of(0, -1, -1, -1, 0, 0), guesses(w, 0, 1));
        row(w, 0, 0, 1, 40, 1, 41);
        due(of(0, -1, -1, -1, 0, 0), guesses(w, 0, 1));
        row(w, 0, 0, 2, 40);
        due(of(11, 20, 30, -1, 11, 0), guesses(w, 0, 1));
        // The lightest alone is moved, and all but the heaviest.
        WindSigned ends = told("plain days 2 law 0 odds 0 wide 2 high 2;house 0 0;thing weighs 5 at 0 0 for 0;"
                + "thing weighs 5 at 1 0 for 0;wind 1 1 at 0;wind 2 30 at 1;");
        row(ends, 0, 0, 1, 10);
        due(of(1, 0, 0, -1, 1, 0), guesses(ends, 0, 0));
        row(ends, 0, 0, 2, 10);
        due(of(1, 30, 30, -1, 1, 0), guesses(ends, 0, 1));
        promise(52);
        row(w, 3, 0, 1, 42);
        due(1, w.laws(3, 2));
        row(w, 3, 0, 1, -1);
        due(of(2, 0), w.laws(3, 2), w.weights(3, 2));
        row(w, 3, 0, 1, 12);
        due(4, w.laws(3, 2));
        row(w, 3, 0, 1, 22);
        due(8, w.laws(3, 2));
        // Gone is a place like others: by law 1 thing 1 weighs less than 4, if it goes away in day 1.
        WindSigned away = told("plain days 2 law 1 odds 0 wide 2 high 4;house 0 0;thing weighs 30 at 0 0 for 0;"
                + "wind 2 12 at 0;");
        row(away, 1, 1, 1, -1);
        due(of(4, 0, 3, -1, 4, 0), guesses(away, 1, 0));
        row(away, 1, 1);
        due(of(31, 0, 30, 1, 19, 15), guesses(away, 1, 0));
    }

    private static void guessingWrongly() {
        WindSigned w = told(VALE);
        promise(47);
        due(of(-6, -6, -6, -6, -6, -6), guesses(w, 0, 0));
        int[][] unknown = {{0, 3}, {4, 0}, {-1, 0}, {0, -1}};
        for (int[] one : unknown) {
            due(of(-2, -2, -2, -2, -2, -2), guesses(w, one[0], one[1]));
        }
        long[][] rows = {{1}, {5, 11}, {-1, 11}, {0, 50}, {0, 4}, {0, -2}, {0, 11, 1}, {0, 11, 1, 99}, {0, 100}};
        for (long[] row : rows) {
            row(w, 1, 3, row);
            due(of(-2, -2, -2, -2, -2, -2), guesses(w, 1, 0));
        }
        row(w, 1, 3, 1L << 32, 11);
        due(-2, w.weights(1, 0));
        row(w, 1, 3, 0, 4294967306L);
        due(-2, w.weights(1, 0));
        row(w, 1, 2, 1L << 32, 11);
        due(31, w.weights(1, 0));
    }

    private static void byLaws() {
        WindSigned w = told(VALE);
        promise(53);
        due(of(4, 0, 4, 4, -2, -2), w.by(0), w.by(1), w.by(2), w.by(3), w.by(4), w.by(-1));
        due(4, w.right(4));
        promise(54);
        due(of(1, 0, 0), w.law(), told(NOOK).law(), told(BARE).law());
    }

    private static void shares() {
        WindSigned w = told(NOOK);
        promise(55);
        due(of(0, 0, 0, 1, 0, 1, 0, 1), w.worth(0), w.worth(1), w.worth(2), w.worth(3), w.worth(4), w.worth(5),
                w.worth(6), w.worth(7));
        due(of(-2, -2, 0, -2), w.worth(8), w.worth(-1), told(BARE).worth(0), told(BARE).worth(1));
        promise(56);
        due(of(2, 3, 1, 6, 1, 6), w.share(0, 0), w.share(0, 1), w.share(1, 0), w.share(1, 1), w.share(2, 0),
                w.share(2, 1));
        due(of(0, 1), told(VALE).share(0, 0), told(VALE).share(0, 1));
        due(of(-1000, -1000, -1000, -1000), w.share(3, 0), w.share(-1, 0), w.share(0, 2), w.share(0, -1));
        // A thing that no wind of the plain moves is worth one without shelters, too.
        WindSigned heavy = told(NOOK + "thing weighs 9 at 1 1 for 0;");
        due(of(1, 2, 2, 3), heavy.worth(0), heavy.worth(7), heavy.share(0, 0), heavy.share(0, 1));
        // Winds of acts blow here, too.
        heavy.blows(1, 40, 0);
        due(of(0, 1, 2, 5, 3), heavy.worth(0), heavy.worth(1), heavy.worth(7), heavy.share(0, 0), heavy.share(0, 1));
    }

    private static void game() {
        WindSigned w = told(LANE);
        promise(57);
        due(of(2, 4, -2, -2, -2, -2), w.rests(0, 1), w.rests(1, 0), w.rests(0, 0), w.rests(0, 2), w.rests(2, 0),
                w.rests(-1, 0));
        due(1, told(VALE).rests(0, 1));
        // With nothing to have nobody builds.
        due(of(1, 1), told(BARE + "house 0 0;house 1 0;").rests(0, 1), told(BARE + "house 0 0;house 1 0;").rests(1, 0));
        promise(58);
        due(of(0, 2, 5, 2), w.gets(0, 1, 0, 0), w.gets(0, 1, 1, 0), w.gets(0, 1, 0, 1), w.gets(0, 1, 1, 1));
        due(of(5, -3, 0, -3), w.gets(1, 0, 0, 0), w.gets(1, 0, 1, 0), w.gets(1, 0, 0, 1), w.gets(1, 0, 1, 1));
        due(of(-1000, -1000, -1000), w.gets(0, 0, 0, 0), w.gets(0, 2, 0, 0), w.gets(-1, 0, 0, 0));
        due(of(-1000, -1000, -1000, -1000), w.gets(0, 1, 2, 0), w.gets(0, 1, 0, 2), w.gets(0, 1, -1, 0),
                w.gets(0, 1, 0, -1));
        // Where a shelter is told, to build is paid for all the same, and it stays if nobody builds.
        WindSigned built = told(LANE + "shelter 0 0;");
        due(of(5, 2, 0, -3), built.gets(0, 1, 0, 0), built.gets(0, 1, 1, 0), built.gets(1, 0, 0, 0),
                built.gets(1, 0, 1, 0));
        due(1, built.rests(0, 1));
    }

    private static void chances() {
        WindSigned w = told(VALE);
        promise(59);
        due(of(1, 2, 3, 4), w.chance(0, 0), w.chance(0, 1), w.chance(1, 0), w.chance(1, 1));
        due(of(0, 1), told(NOOK).chance(0, 0), told(NOOK).chance(0, 1));
        due(of(1, 1), told(LANE).chance(0, 0), told(LANE).chance(0, 1));
        due(of(-2, -2, -2, -2), w.chance(3, 0), w.chance(-1, 0), w.chance(0, 2), w.chance(0, -1));
        promise(60);
        due(of(5, 4, 7, 4), w.mean(0, 0), w.mean(0, 1), w.mean(1, 0), w.mean(1, 1));
        due(of(0, 1, 1, 1), told(NOOK).mean(0, 0), told(NOOK).mean(0, 1), told(LANE).mean(0, 0), told(LANE).mean(0, 1));
        due(of(-2, -2, -2, -2), w.mean(3, 0), w.mean(-1, 0), w.mean(0, 2), w.mean(0, -1));
        // Winds of acts are sure.
        w.blows(2, 4, 0);
        due(of(1, 1), w.chance(0, 0), w.chance(0, 1));
        WindSigned never = told(LANE.replace("odds 10", "odds 0"));
        due(of(0, 1, 0, 1), never.chance(0, 0), never.chance(0, 1), never.mean(0, 0), never.mean(0, 1));
        never.blows(1, 1, 0);
        due(of(1, 1, 1, 1), never.chance(0, 0), never.chance(0, 1), never.mean(0, 0), never.mean(0, 1));
        // Nine winds: seven of ten that one of them does not blow, in the ninth power.
        WindSigned nine = told("plain days 9 law 0 odds 3 wide 9 high 2;house 0 0;thing weighs 0 at 0 0 for 0;"
                + "wind 1 1 at 0;".repeat(9));
        due(of(1000000000L - 40353607L, 1000000000L), nine.chance(0, 0), nine.chance(0, 1));
    }

    private static void acts() {
        WindSigned w = told(VALE);
        promise(61);
        // Things that winds of the day move then, those told as well.
        due(of(4, 40, 1), w.blows(2, 1, 0), w.at(1, 1), w.count(9));
        due(of(3, 5, 23, 31), w.blows(1, 40, 1), w.steps(0, 1), w.at(0, 2), w.at(1, 2));
        w.anew();
        due(of(7, 13), w.blows(2, 40, 0), w.at(0, 1));
        due(of(3, 0), w.at(0, 2), w.received(0));
        w.anew();
        due(of(0, 1, 1), w.blows(1, 3, 2) & 1, w.blows(1, 4, 2) & 1, w.blows(0, 4, 2) & 1);
        due(of(3, 12, 2), w.count(9), w.at(0, 3), w.steps(0, 2));
        w.anew();
        promise(62);
        // Brought back behind the winds of the day, the latest of several counts.
        due(of(43, 3, 43), w.brings(0, 43, 3), w.at(0, 3), w.at(0, 4));
        due(of(0, 0, 1), w.brings(0, 0, 3), w.steps(0, 3), w.received(0));
        due(of(31, 31), w.brings(1, 40, 0), w.at(1, 4));
        due(of(40, 40), w.brings(1, 40, 1), w.at(1, 4));
        due(of(2, 1, 4), w.worn(1), w.received(1), w.count(9));
        WindSigned away = told(VALE.replace("law 0", "law 1"));
        due(of(-1, -1, 11), away.at(0, 4), away.brings(0, 11, 0), away.brings(0, 11, 3));
        due(of(11, 5, 4), away.at(0, 4), away.gone(3), away.gone(4));
        // By what is brought back nothing is received.
        WindSigned still = told(NOOK);
        due(of(1, -1, 0), still.brings(0, 1, 1), still.received(0), still.worn(0));
        promise(63);
        due(of(1, 0, -5, -1), away.undo(), away.undo(), away.undo(), away.at(0, 4));
        promise(64);
        due(of(4, 0, 3, 31), w.anew(), w.anew(), w.at(0, 4), w.at(1, 4));
    }

    private static void actsRefused() {
        WindSigned w = told(VALE);
        promise(61);
        due(of(-2, -2, -2, -2), w.blows(4, 1, 0), w.blows(-1, 1, 0), w.blows(0, 0, 0), w.blows(0, 41, 0));
        due(of(-2, -2, 0), w.blows(0, 1, 4), w.blows(0, 1, -1), w.count(9));
        promise(62);
        due(of(-2, -2, -2, -2), w.brings(3, 0, 0), w.brings(-1, 0, 0), w.brings(0, 50, 0), w.brings(0, 4, 0));
        due(of(-2, -2, -2, 0), w.brings(0, -1, 0), w.brings(0, 0, 4), w.brings(0, 0, -1), w.count(9));
        for (int i = 0; i < 15; i++) {
            due(4, w.blows(0, 1, 0));
            due(3, w.brings(0, 11, 0));
        }
        due(of(-5, -5, 30), w.blows(0, 1, 0), w.brings(0, 11, 0), w.count(9));
        due(of(-2, -2), w.blows(4, 1, 0), w.brings(0, 50, 0));
        promise(63);
        due(of(29, 4, -5), w.undo(), w.blows(0, 1, 0), w.blows(0, 1, 0));
        promise(64);
        due(of(30, 0, -5), w.anew(), w.anew(), w.undo());
    }

    private static void years() {
        WindSigned w = told(VALE);
        promise(65);
        due(of(1, 15, 9, 2, 7), w.drawn(0, 0), w.drawn(8, 0), w.drawn(7, 0), w.drawn(16, 0), w.drawn(2000000000, 0));
        due(of(4, 7, 4, 3), w.drawn(0, 1), w.drawn(8, 1), w.drawn(7, 1), w.drawn(16, 1));
        due(of(-2, -2, -2, -2), w.drawn(-1, 0), w.drawn(2000000001, 0), w.drawn(0, 2), w.drawn(0, -1));
        due(of(0, 0, 1), told(BARE).drawn(0, 0), told(BARE).drawn(0, 1), told(LANE).drawn(5, 0));
        due(0, told(VALE.replace("odds 5", "odds 0")).drawn(0, 0));
        promise(66);
        due(of(14, 0, 1, 2), w.luck(0, 20, 1), w.luck(0, 1, 1), w.luck(1, 1, 1), w.luck(2000000000, 2, 0));
        due(of(-2, -2, -2, -2), w.luck(0, 0, 0), w.luck(0, 21, 0), w.luck(0, 1, 3), w.luck(0, 1, -1));
        due(of(-2, -2), w.luck(-1, 1, 0), w.luck(2000000001, 1, 0));
        // Winds of acts are sure.
        w.blows(2, 4, 0);
        due(of(1, 5, 20), w.drawn(0, 0), w.drawn(0, 1), w.luck(0, 20, 0));
    }

    private static void ratesAndCounts() {
        WindSigned w = told(VALE);
        promise(67);
        due(of(3, 12, 12, -1), w.rate(0, 12), w.thing(0, 0), w.rate(0, 12), w.received(0));
        due(of(11, 12, 3, 3), w.at(0, 4) , w.rate(0, 3), w.at(0, 4), w.rate(0, 3));
        due(of(-2, -2, -2, -2), w.rate(0, 31), w.rate(0, -1), w.rate(3, 0), w.rate(-1, 0));
        w.blows(0, 1, 0);
        due(of(-5, -2, 3), w.rate(0, 0), w.rate(0, 31), w.thing(0, 0));
        due(of(0, 3, 30, 0), w.undo(), w.rate(0, 30), w.rate(0, 0), w.thing(0, 0));
        promise(68);
        w.blows(0, 1, 0);
        w.row(2, 0, 0);
        w.feed(0, 0, 0, 0, 0);
        int[] counts = {4, 0, 5, 5, 4, 2, 2, 3, 4, 1, 12, 20, 1};
        for (int what = 0; what < counts.length; what++) {
            due(counts[what], w.count(what), "count(" + what + ")");
        }
        due(of(-1, -1), w.count(13), w.count(-1));
        due(of(2, 1), told(BARE).count(1), told(NOOK).count(1));
    }

    private static void images() {
        WindSigned w = told(VALE);
        promise(69);
        due(of(-2, -2, 0), w.image(3), w.image(-1), w.image(0));
        w.rate(1, 5);
        w.blows(1, 40, 2);
        due(0, w.image(1));
        promise(70);
        due(of(-2, -2, -6), w.back(3), w.back(-1), w.back(2));
        w.anew();
        w.rate(1, 6);
        w.feed(1, 2, 3, 4, 5);
        w.row(0, 0, 4);
        due(of(0, 1, 5, 20, 1), w.back(1), w.count(9), w.thing(1, 0), w.count(11), w.count(12));
        due(of(40, -4, 0), w.force(2), w.plain(), w.back(0));
        // The latest fault is of the tape's, not of the plain's.
        due(of(0, 10, 1, 31), w.count(9), w.thing(1, 0), w.fault(0), w.at(1, 4));
        w.end(0);
        due(of(0, 0, -2, 0, 12), w.plain(), w.image(2), w.heir(), w.back(0), w.count(10));
        due(of(0, -2, 0, 0, 1), w.back(2), w.heir(), w.count(10), w.back(1), w.count(9));
        // What comes behind an image does not reach it.
        due(of(4, 2, 0, 1), w.blows(0, 1, 0), w.count(9), w.back(1), w.count(9));
    }

    private static void slots() {
        WindSigned w = told(VALE);
        promise(71);
        due(of(-2, -2, -2, -2, -2), w.row(4, 0, 1), w.row(-1, 0, 1), w.row(0, 4, 1), w.row(0, -1, 1), w.row(0, 0, 61));
        due(of(-3, -2, 0), w.row(0, 0, -1), w.row(4, 0, -1), w.count(12));
        due(of(0, 0, 2), w.row(0, 0, 60), w.row(3, 3, 0), w.count(12));
        due(of(0, -7, 0), w.write(0, 59, 1), w.write(0, 60, 1), w.row(0, 1, 2));
        due(of(-7, -3, 0, -7, 0), w.write(0, 2, 0), w.row(0, 0, Integer.MIN_VALUE), w.write(0, 1, 0), w.write(0, 2, 0),
                w.row(0, 0, 2));
        // All are 0: day 0, cell 0, where thing 0 does not lie.
        due(0, w.weights(0, 0));
        w.write(0, 1, 11);
        due(of(31, 0, 0), w.weights(0, 0), w.row(0, 0, 2), w.weights(0, 0));
        promise(72);
        due(of(-2, -2, -6, -7, -7), w.write(4, 0, 0), w.write(-1, 0, 0), w.write(1, 0, 0), w.write(0, 2, 0),
                w.write(0, -1, 0));
        for (int width = 0; width < 4; width++) {
            // 11 and something beyond the width; with 8 bytes nothing is beyond.
            w.row(2, width, 2);
            due(0, w.write(2, 1, width == 3 ? 11 : 11 + (7L << (8 << width))));
            due(31, w.weights(2, 0), "weights by a row of width " + width);
            due(0, w.write(2, 1, -1));
            due(0, w.weights(2, 0), "weights by -1 of width " + width);
            due(0, w.write(2, 1, width == 3 ? 11L + (1L << 40) : 11 + (1L << ((8 << width) - 1))));
            due(-2, w.weights(2, 0), "weights by a number too great, of width " + width);
        }
        promise(73);
        due(of(-2, -2, -2), w.paste(4, 0, 0, 0, 0), w.paste(0, 0, 4, 0, 0), w.paste(-1, 0, 0, 0, 0));
        due(of(-6, -6, -6), w.paste(1, 0, 0, 0, 0), w.paste(0, 0, 1, 0, 0), w.paste(1, 0, 1, -1, 0));
        due(of(-8, -8), w.paste(0, 0, 2, 0, 1), w.paste(2, -1, 0, 0, 1));
        row(w, 0, 0, 0, 11, 1, 11);
        w.row(1, 0, 2);
        due(of(-7, -7, -7, -7, -7), w.paste(0, 0, 1, 0, 3), w.paste(0, 3, 1, 0, 2), w.paste(0, -1, 1, 0, 1),
                w.paste(0, 0, 1, -1, 1), w.paste(0, 0, 1, 0, -1));
        due(of(-7, -7, -7), w.paste(0, 0, 1, 1, 2), w.paste(0, Integer.MAX_VALUE, 1, 0, 1),
                w.paste(0, 1, 1, 0, Integer.MAX_VALUE));
        due(0, w.weights(1, 0), "nothing was pasted");
        due(of(0, 31), w.paste(0, 2, 1, 0, 2), w.weights(1, 0));
        due(of(0, 0), w.paste(0, 4, 1, 2, 0), w.paste(0, 0, 0, 0, 4));
        // Within one row, as they were: 0 11 1 11 becomes 0 0 11 1, and 0 11 11 0 becomes 11 11 0 0.
        due(of(0, 0, -2), w.paste(0, 0, 0, 1, 3), w.write(0, 1, 11), w.weights(0, 0));
        due(of(0, 0, 0, 0, 31), w.write(0, 3, 0), w.paste(0, 1, 0, 0, 3), w.paste(0, 2, 1, 0, 1), w.paste(0, 0, 1, 1, 1),
                w.weights(1, 0));
    }

    private static void emptyPlain() {
        promise(4);
        WindSigned w = told(BARE);
        due(of(0, 0, 0, 0, 0, 0), w.here(0, 0), w.moved(0), w.signed(3), w.gone(3), w.right(0), w.heap(1));
        due(of(0, 0, -1, -1, 0, 0, -1, -1), w.under(0), w.edge(0), w.gale(), w.heir(), w.idle(), w.strewn(), w.blame(),
                w.burden());
        due(of(0, -5, 0, 0), w.by(3), w.undo(), w.anew(), w.blows(0, 1, 2));
        due(of(-2, -2, -1000, -2), w.at(0, 0), w.rests(0, 1), w.gets(0, 1, 0, 0), w.brings(0, 0, 0));
    }

    private static void noPlain() {
        WindSigned w = new WindSigned();
        w.row(0, 0, 2);
        promise(6);
        due(of(-2, -2, -2, -2), w.house(0), w.shelter(0), w.thing(0, 0), w.wind(0, 0));
        promise(10);
        due(of(-2, -2, -2, -2, -2), w.at(0, 0), w.here(0, 0), w.moved(0), w.steps(0, 0), w.worn(0));
        due(of(-2, -2, -2, -2, -2), w.received(0), w.signed(0), w.waits(0), w.heir(), w.gone(0));
        promise(20);
        due(of(-2, -2, -2, -2, -2), w.had(0, 0), w.has(0, 0), w.right(0), w.rich(0), w.home(0));
        promise(25);
        due(of(-2, -2, -2, -2, -2), w.far(0), w.apart(0, 0, 0), w.meet(0, 0), w.heap(0), w.under(0));
        promise(30);
        due(of(-2, -2, -2, -2, -2), w.edge(0), w.mostly(0), w.lee(0, 0), w.lulls(), w.lull());
        due(of(-2, -2, -2, -2, -2, -2), w.force(0), w.gale(), w.movers(0), w.moves(0), w.idle(), w.strewn());
        promise(41);
        due(of(-2, -2, -2, -2, -2, -2), w.keep(0), w.keeps(0), w.blow(0, 0, 0, 0), w.bring(0, 0), w.blame(), w.burden());
        due(of(-2, -2, -2, -2, -2, -2), guesses(w, 0, 0));
        due(of(-2, -2, -2, -2, -2, -2), guesses(w, 1, 0));
        due(of(-2, -2, -2, -1000), w.by(0), w.law(), w.worth(0), w.share(0, 0));
        due(of(-2, -1000, -2, -2), w.rests(0, 1), w.gets(0, 1, 0, 0), w.chance(0, 0), w.mean(0, 0));
        promise(61);
        due(of(-2, -2, -2, -2), w.blows(0, 1, 0), w.brings(0, 0, 0), w.undo(), w.anew());
        due(of(-2, -2, -2, 0, 0), w.drawn(0, 0), w.luck(0, 1, 0), w.rate(0, 0), w.image(0), w.back(0));
    }
}
