/** The edges that the terms of the document name. */
public final class TermsEdgesTest {
    private static final Check CHECK = new Check();
    private static final Sentences DOC = new Sentences("edges of the terms", CHECK);
    private static final String TERMS = "Terms";
    private static final int[] WILD = {Integer.MIN_VALUE, Integer.MIN_VALUE + 1, -65536, Integer.MAX_VALUE - 1, Integer.MAX_VALUE,
        65536, 256};
    private static final String PLAIN = "rock a 0 to 0; name a when 1;";

    private interface Spot {
        boolean taken(int column, int line);
    }

    private TermsEdgesTest() {
    }

    public static void main(String[] args) {
        DOC.test(2, TERMS, "DAYS are 0 to 9999", TermsEdgesTest::lastDay);
        DOC.test(3, TERMS, "DAYS are 0 to 9999", TermsEdgesTest::whatIsToldOnTheLastDay);
        DOC.test(2, TERMS, "NOW is one, 0 at first", () -> CHECK.same("now", new LandSurvey().count(0), 0));
        DOC.test(4, TERMS, "12 columns (0 to 11) and 8 lines (0 to 7)", TermsEdgesTest::spotsThatAreTold);
        DOC.test(20, TERMS, "12 columns (0 to 11) and 8 lines (0 to 7)", TermsEdgesTest::spotsThatAreAskedOf);
        DOC.test(26, TERMS, "12 columns (0 to 11) and 8 lines (0 to 7)", TermsEdgesTest::spotsOfSheetsAndPlans);
        DOC.test(20, TERMS, "its neighbours are those left, right, above, below", TermsEdgesTest::noWayRoundTheEdge);
        DOC.test(20, TERMS, "its neighbours are those left, right, above, below", TermsEdgesTest::noWayAslant);
        DOC.test(22, TERMS, "its neighbours are those left, right, above, below", TermsEdgesTest::linesToNeighbours);
        DOC.test(4, TERMS, "a height (0 to 999; 500 at first)", TermsEdgesTest::heights);
        DOC.test(4, TERMS, "a height (0 to 999; 500 at first)", TermsEdgesTest::heightAtFirst);
        DOC.test(7, TERMS, "is bare (at first) or covered", TermsEdgesTest::bareAtFirst);
        DOC.test(5, TERMS, "turned over (the limb of a fold) or not (at first)", TermsEdgesTest::notTurnedAtFirst);
        DOC.test(6, TERMS, "may be held by one of OWNERS 0 to 3 (by none at first)", TermsEdgesTest::owners);
        DOC.test(6, TERMS, "may be held by one of OWNERS 0 to 3 (by none at first)", TermsEdgesTest::heldByNoneAtFirst);
        sights();
        dipsAndRemains();
        views();
        DOC.end();
    }

    private static void sights() {
        DOC.test(7, TERMS, "SIGHTS, 40 at most", TermsEdgesTest::fortySights);
        DOC.test(7, TERMS, "0 SEEN (on a CELL that is bare then)", TermsEdgesTest::bareThen);
        DOC.test(7, TERMS, "0 SEEN (on a CELL that is bare then), 1 LOOSE stones, 2 BORE, 3 MINE, 4 WELL", TermsEdgesTest::kinds);
        DOC.test(7, TERMS, "a depth (0 of kinds 0 and 1, 0 to 999 of others)", TermsEdgesTest::depths);
        DOC.test(7, TERMS, "a HAND (0 to 5)", TermsEdgesTest::hands);
        DOC.test(7, TERMS, "four facts (0 to 9 each): colour, grain, hard, fizz", TermsEdgesTest::facts);
        DOC.test(7, TERMS, "It is told on a DAY (NOW)", TermsEdgesTest::toldNowWhateverTheView);
        DOC.test(10, TERMS, "it may be WITHDRAWN, once, on a DAY (NOW)", TermsEdgesTest::withdrawnOnce);
        DOC.test(10, TERMS, "it may be WITHDRAWN, once, on a DAY (NOW)", TermsEdgesTest::withdrawnNowWhateverTheView);
    }

    private static void dipsAndRemains() {
        DOC.test(8, TERMS, "A SIGHT may have a DIP (told once)", TermsEdgesTest::dipOnce);
        DOC.test(8, TERMS, "to a neighbour (0 left, 1 right, 2 above, 3 below)", TermsEdgesTest::dipWays);
        DOC.test(8, TERMS, "the BASE (see 3) is n higher (-99 to 99)", TermsEdgesTest::dipHeights);
        DOC.test(8, TERMS, "or up to w (0 to 99) more or less than that", TermsEdgesTest::dipWidths);
        DOC.test(9, TERMS, "a REMAIN found in it (told once, 0 to 9), washed in or not", TermsEdgesTest::remainOnce);
        DOC.test(9, TERMS, "a REMAIN found in it (told once, 0 to 9), washed in or not", TermsEdgesTest::remainNumbers);
        DOC.test(9, TERMS, "a REMAIN found in it (told once, 0 to 9), washed in or not", TermsEdgesTest::washedOrNot);
    }

    private static void views() {
        DOC.test(3, TERMS, "SIGHTS told on it or ahead", TermsEdgesTest::viewOfTold);
        DOC.test(3, TERMS, "and not WITHDRAWN on it or ahead", TermsEdgesTest::viewOfWithdrawn);
        DOC.test(3, TERMS, "and not WITHDRAWN on it or ahead", TermsEdgesTest::toldAndWithdrawnOnADay);
        DOC.test(3, TERMS, "RULES in force on it", TermsEdgesTest::viewOfRules);
        DOC.test(3, TERMS, "It is NOW until another one is told, and NOW again if that is told", TermsEdgesTest::viewGoesWithNow);
        DOC.test(3, TERMS, "All else is as it is", TermsEdgesTest::allElseIsAsItIs);
    }

    private static LandSurvey onDay(int day) {
        LandSurvey x = new LandSurvey();
        for (int left = day; left > 0; left -= 1000) {
            x.days(Math.min(left, 1000));
        }
        return x;
    }

    private static void lastDay() {
        LandSurvey x = onDay(9998);
        CHECK.same("two days more", x.days(2), -1);
        CHECK.same("now", x.count(0), 9998);
        CHECK.same("one day more", x.days(1), 9999);
        CHECK.same("one day too many", x.days(1), -1);
        CHECK.same("a thousand too many", x.days(1000), -1);
        CHECK.same("none more", x.days(0), 9999);
        CHECK.yes("the first day", x.view(0));
        CHECK.yes("the last day", x.view(9999));
        CHECK.no("behind the last day", x.view(10000));
        CHECK.no("ahead of the first day", x.view(-1));
        LandSurvey y = onDay(9000);
        CHECK.same("a thousand from 9000", y.days(1000), -1);
        CHECK.same("999 from 9000", y.days(999), 9999);
    }

    private static void whatIsToldOnTheLastDay() {
        LandSurvey x = onDay(9999);
        CHECK.same("rules", Check.rules(x, PLAIN), 0);
        CHECK.same("a sight", x.sight(2, 0, 0, 0, 0, 0), 0);
        CHECK.same("says something", x.look(0, 2), 1);
        CHECK.yes("the day ahead", x.view(9998));
        CHECK.same("says nothing yet", x.look(0, 2), 0);
        CHECK.same("no rock yet", x.count(4), 0);
        CHECK.yes("the last day", x.view(9999));
        CHECK.yes("withdrawn", x.withdraw(0));
        CHECK.same("says nothing more", x.look(0, 2), 0);
    }

    private static void spots(String call, Spot spot) {
        for (int column = 0; column < 12; column += 11) {
            for (int line = 0; line < 8; line += 7) {
                CHECK.yes(call + " " + column + ", " + line, spot.taken(column, line));
            }
        }
        int[][] off = {{-1, 0}, {12, 0}, {0, -1}, {0, 8}, {-1, 7}, {12, 7}, {11, -1}, {11, 8}, {-1, -1}, {12, 8}, {-12, 1}, {24, -1}};
        for (int[] at : off) {
            CHECK.no(call + " " + at[0] + ", " + at[1], spot.taken(at[0], at[1]));
        }
        for (int wild : WILD) {
            CHECK.no(call + " " + wild + ", 0", spot.taken(wild, 0));
            CHECK.no(call + " 0, " + wild, spot.taken(0, wild));
            CHECK.no(call + " " + wild + ", " + wild, spot.taken(wild, wild));
        }
    }

    private static LandSurvey known() {
        LandSurvey x = Check.with("rock a 9 to 9; rock b 9 to 9; name b when 1; holds a; tight b; steep 0;");
        x.sight(2, 0, 0, 100, 0, 0);
        return x;
    }

    private static void spotsThatAreTold() {
        spots("cell", (column, line) -> new LandSurvey().cell(column, line, 7, true));
        spots("fold", (column, line) -> new LandSurvey().fold(column, line, true));
        spots("own", (column, line) -> new LandSurvey().own(column, line, 2));
        for (int kind = 0; kind <= 4; kind++) {
            int asked = kind;
            spots("sight " + kind, (column, line) -> new LandSurvey().sight(asked, column, line, 0, 0, 0) == 0);
        }
        spots("question", (column, line) -> new LandSurvey().question(column, line, true));
        spots("question", (column, line) -> new LandSurvey().question(column, line, false));
        spots("place", (column, line) -> new LandSurvey().place(column, line, 1) == 0);
    }

    private static void spotsThatAreAskedOf() {
        LandSurvey x = known();
        spots("base", (column, line) -> !throwsNothingSuch(() -> x.base(0, column, line, 0)));
        spots("deep", (column, line) -> !throwsNothingSuch(() -> x.deep(column, line, 0, 0)));
        spots("lies", (column, line) -> x.lies(column, line, 0) >= 0);
        spots("water", (column, line) -> x.water(column, line, 0) >= 0);
        spots("line", (column, line) -> x.line(column, line, column == 0 ? 1 : 0) >= 0);
        spots("line", (column, line) -> x.line(column, line, line == 0 ? 3 : 2) >= 0);
    }

    private static boolean throwsNothingSuch(Check.Call call) {
        try {
            call.answer();
        } catch (java.util.NoSuchElementException e) {
            return true;
        }
        return false;
    }

    private static void spotsOfSheetsAndPlans() {
        spots("sheet of one cell", (column, line) -> new LandSurvey().sheet(column, line, column, line) == 0);
        spots("sheet from", (column, line) -> new LandSurvey().sheet(column, line, 11, 7) == 0);
        spots("sheet to", (column, line) -> new LandSurvey().sheet(0, 0, column, line) == 0);
        LandSurvey x = new LandSurvey();
        x.sheet(0, 0, 11, 7);
        spots("drawn", (column, line) -> x.drawn(0, column, line) >= 0);
        spots("fault down", (column, line) -> new LandSurvey().fault(column == 11 ? 10 : column, line, true, 1, 0, 0, 1) == 0);
        spots("fault across", (column, line) -> new LandSurvey().fault(column, line == 7 ? 6 : line, false, 1, 0, 0, 1) == 0);
    }

    /** Cell 11 stands beside cell 12 by number alone, and the first line is no neighbour of the last. */
    private static void noWayRoundTheEdge() {
        LandSurvey x = Check.with(PLAIN + "steep 1;");
        x.sight(2, 11, 3, 0, 0, 0);
        CHECK.same("the first cell of the next line", x.base(0, 0, 4, 1), 512);
        CHECK.same("the first cell of the same line", x.base(0, 0, 3, 1), 511);
        LandSurvey y = Check.with(PLAIN + "steep 1;");
        y.sight(2, 0, 3, 0, 0, 0);
        CHECK.same("the last cell of the line ahead", y.base(0, 11, 2, 0), 488);
        LandSurvey z = Check.with(PLAIN + "steep 1;");
        z.sight(2, 5, 0, 0, 0, 0);
        CHECK.same("the last line", z.base(0, 5, 7, 1), 507);
        LandSurvey w = Check.with(PLAIN + "steep 1;");
        w.sight(2, 5, 7, 0, 0, 0);
        CHECK.same("the first line", w.base(0, 5, 0, 0), 493);
    }

    private static void noWayAslant() {
        LandSurvey x = Check.with(PLAIN + "steep 1;");
        x.sight(2, 5, 4, 0, 0, 0);
        for (int way = 0; way < 4; way++) {
            int column = way < 2 ? 1 : 0;
            int sign = way % 2 == 0 ? -1 : 1;
            CHECK.same("a neighbour", x.base(0, 5 + sign * column, 4 + sign * (1 - column), 1), 501);
            CHECK.same("aslant", x.base(0, way < 2 ? 4 : 6, way % 2 == 0 ? 3 : 5, 1), 502);
        }
        LandSurvey corners = Check.with(PLAIN + "steep 1;");
        corners.sight(2, 0, 0, 0, 0, 0);
        CHECK.same("from corner to corner", corners.base(0, 11, 7, 1), 518);
        CHECK.same("from corner to corner", corners.base(0, 11, 7, 0), 482);
    }

    private static void linesToNeighbours() {
        LandSurvey x = known();
        for (int column = 0; column < 12; column++) {
            CHECK.same("above the first line", x.line(column, 0, 2), -1);
            CHECK.same("below the last line", x.line(column, 7, 3), -1);
        }
        for (int line = 0; line < 8; line++) {
            CHECK.same("left of the first column", x.line(0, line, 0), -1);
            CHECK.same("right of the last column", x.line(11, line, 1), -1);
        }
        for (int where = 0; where < 4; where++) {
            CHECK.yes("to all sides within", x.line(5, 5, where) >= 0);
        }
    }

    private static void heights() {
        int[] taken = {0, 1, 998, 999};
        for (int height : taken) {
            LandSurvey x = Check.with(PLAIN);
            CHECK.yes("height " + height, x.cell(0, 0, height, true));
            x.sight(0, 0, 0, 0, 0, 0);
            CHECK.same("height " + height, x.look(0, 5), height);
        }
        int[] refused = {-1, -2, -999, 1000, 1001};
        for (int height : refused) {
            refusedHeight(height);
        }
        for (int height : WILD) {
            if (height < 0 || height > 999) {
                refusedHeight(height);
            }
        }
    }

    private static void refusedHeight(int height) {
        LandSurvey x = Check.with(PLAIN);
        CHECK.no("height " + height, x.cell(0, 0, height, false));
        CHECK.same("still bare behind " + height, x.sight(0, 0, 0, 0, 0, 0), 0);
        CHECK.same("still 500 behind " + height, x.look(0, 5), 500);
    }

    private static void heightAtFirst() {
        int[][] at = {{0, 0}, {11, 0}, {0, 7}, {11, 7}, {6, 3}};
        for (int[] cell : at) {
            LandSurvey x = Check.with(PLAIN);
            x.sight(0, cell[0], cell[1], 0, 0, 0);
            CHECK.same("at " + cell[0] + ", " + cell[1], x.look(0, 5), 500);
        }
    }

    private static void bareAtFirst() {
        LandSurvey x = new LandSurvey();
        int told = 0;
        for (int column = 0; column < 12; column += 11) {
            for (int line = 0; line < 8; line++) {
                CHECK.same("seen at " + column + ", " + line, x.sight(0, column, line, 0, 0, 0), told);
                told++;
            }
        }
        x.cell(3, 3, 500, false);
        CHECK.same("covered", x.sight(0, 3, 3, 0, 0, 0), -1);
        CHECK.same("its neighbour", x.sight(0, 4, 3, 0, 0, 0), told);
        x.cell(3, 3, 500, true);
        CHECK.same("bare again", x.sight(0, 3, 3, 0, 0, 0), told + 1);
    }

    private static void notTurnedAtFirst() {
        LandSurvey x = Check.with("rock a 1 to 1; rock b 2 to 2; name a when 1;");
        x.sight(2, 0, 0, 0, 0, 0);
        x.sight(2, 11, 7, 0, 0, 0);
        for (int k = 0; k < 2; k++) {
            CHECK.same("as it lies", x.look(k, 6), 498);
        }
        CHECK.yes("not turned, told again", x.fold(0, 0, false));
        CHECK.same("as it lies", x.look(0, 6), 498);
        CHECK.yes("turned", x.fold(0, 0, true));
        CHECK.yes("turned, told again", x.fold(0, 0, true));
        CHECK.same("turned", x.look(0, 6), 500);
        CHECK.same("another", x.look(1, 6), 498);
    }

    private static void owners() {
        for (int owner = 0; owner <= 3; owner++) {
            LandSurvey x = known();
            CHECK.yes("owner " + owner, x.own(11, 7, owner));
            for (int other = 0; other <= 3; other++) {
                CHECK.same("held by " + owner + ", asked of " + other, x.seam(0, other, 1), other == owner ? 9 : 0);
            }
        }
        int[] refused = {-2, -3, 4, 5, Integer.MIN_VALUE, Integer.MAX_VALUE, 65536, 256};
        for (int owner : refused) {
            LandSurvey x = known();
            x.own(11, 7, 1);
            CHECK.no("owner " + owner, x.own(11, 7, owner));
            CHECK.same("held as it was behind " + owner, x.seam(0, 1, 1), 9);
        }
    }

    private static void heldByNoneAtFirst() {
        LandSurvey x = known();
        for (int owner = 0; owner <= 3; owner++) {
            CHECK.same("owner " + owner, x.seam(0, owner, 1), 0);
        }
        CHECK.yes("nobody", x.own(0, 0, LandSurvey.NONE));
        CHECK.same("nobody", x.seam(0, 0, 1), 0);
    }

    private static void fortySights() {
        LandSurvey x = Check.with(PLAIN);
        for (int k = 0; k < 40; k++) {
            CHECK.same("sight " + k, x.sight(2, k % 12, k / 12, 0, k % 6, 0), k);
        }
        CHECK.same("all say something", x.count(3), 40);
        CHECK.same("the last one", x.look(39, 2), 1);
        CHECK.none("none behind it", () -> x.look(40, 2));
        for (int kind = 0; kind <= 4; kind++) {
            CHECK.same("one too many, of kind " + kind, x.sight(kind, 0, 0, 0, 0, 0), -1);
        }
        CHECK.yes("one less", x.withdraw(39));
        CHECK.same("one too many all the same", x.sight(2, 0, 0, 0, 0, 0), -1);
        x.days(1);
        CHECK.same("on another day", x.sight(2, 0, 0, 0, 0, 0), -1);
        CHECK.same("forty", x.count(2), 40);
        CHECK.yes("the last one dips", x.dip(39, 0, 0, 0));
        CHECK.yes("the last one has a remain", x.remain(39, 0, false));
    }

    private static void bareThen() {
        LandSurvey x = Check.with(PLAIN);
        CHECK.same("bare", x.sight(0, 2, 2, 0, 0, 0), 0);
        x.cell(2, 2, 500, false);
        CHECK.same("covered since", x.look(0, 2), 1);
        CHECK.same("covered then", x.sight(0, 2, 2, 0, 0, 0), -1);
        for (int kind = 1; kind <= 4; kind++) {
            CHECK.same("others on covered ones", x.sight(kind, 2, 2, 0, 0, 0), kind);
        }
        x.days(1);
        x.view(0);
        CHECK.same("covered now, whatever the view", x.sight(0, 2, 2, 0, 0, 0), -1);
    }

    private static void kinds() {
        for (int kind = 0; kind <= 4; kind++) {
            LandSurvey x = Check.with("rock a 0 to 0; name a when kind = " + kind + ";");
            CHECK.same("kind " + kind, x.sight(kind, 0, 0, 0, 0, 0), 0);
            CHECK.same("kind " + kind, x.look(0, 0), 0);
        }
        int[] refused = {-1, -2, 5, 6, Integer.MIN_VALUE, Integer.MAX_VALUE, 256, 65536};
        for (int kind : refused) {
            LandSurvey x = new LandSurvey();
            CHECK.same("kind " + kind, x.sight(kind, 0, 0, 0, 0, 0), -1);
            CHECK.same("none behind kind " + kind, x.count(2), 0);
        }
    }

    private static void depths() {
        int[] outside = {-1, -2, 1000, 1001, Integer.MIN_VALUE, Integer.MAX_VALUE, 65536};
        for (int kind = 0; kind <= 4; kind++) {
            LandSurvey x = Check.with(PLAIN + "drift 0;");
            for (int depth : outside) {
                CHECK.same("kind " + kind + ", depth " + depth, x.sight(kind, 0, 0, depth, 0, 0), -1);
            }
            int[] within = {1, 2, 998, 999};
            CHECK.same("kind " + kind + ", depth 0", x.sight(kind, 0, 0, 0, 0, 0), 0);
            CHECK.same("kind " + kind + ", depth 0", x.look(0, 5), 500);
            for (int n = 0; n < within.length; n++) {
                int told = x.sight(kind, 0, 0, within[n], 0, 0);
                CHECK.same("kind " + kind + ", depth " + within[n], told, kind < 2 ? -1 : n + 1);
                if (kind >= 2) {
                    CHECK.same("kind " + kind + ", depth " + within[n], x.look(n + 1, 5), 500 - within[n]);
                }
            }
        }
    }

    private static void hands() {
        for (int hand = 0; hand <= 5; hand++) {
            LandSurvey x = Check.with("rock a 0 to 0; name a when hand = " + hand + ";");
            CHECK.same("hand " + hand, x.sight(2, 0, 0, 0, hand, 0), 0);
            CHECK.same("hand " + hand, x.look(0, 0), 0);
            CHECK.same("hand " + hand, x.habit(hand), 0);
        }
        int[] refused = {-1, -2, 6, 7, Integer.MIN_VALUE, Integer.MAX_VALUE, 256, 65536};
        for (int hand : refused) {
            LandSurvey x = new LandSurvey();
            CHECK.same("hand " + hand, x.sight(2, 0, 0, 0, hand, 0), -1);
            CHECK.none("hand " + hand, () -> x.habit(hand));
            CHECK.same("hand " + hand, x.doubles(hand, 0, 0), -1);
            CHECK.same("hand " + hand, x.doubles(0, hand, 0), -1);
        }
    }

    private static void facts() {
        String[] names = {"colour", "grain", "hard", "fizz"};
        int[] weights = {1000, 100, 10, 1};
        for (int n = 0; n < 4; n++) {
            for (int digit = 0; digit <= 9; digit++) {
                LandSurvey x = Check.with("rock a 0 to 0; name a when " + names[n] + " = " + digit + ";");
                int others = 9999 - 9 * weights[n];
                x.sight(2, 0, 0, 0, 0, digit * weights[n]);
                x.sight(2, 0, 0, 0, 0, digit * weights[n] + others);
                x.sight(2, 0, 0, 0, 0, (9 - digit) * weights[n] + others);
                CHECK.same(names[n] + " " + digit, x.look(0, 0), 0);
                CHECK.same(names[n] + " " + digit + " beside nines", x.look(1, 0), 0);
                CHECK.same(names[n] + " not " + digit, x.look(2, 0), -1);
            }
        }
        int[] refused = {-1, -1000, 10000, 10001, Integer.MIN_VALUE, Integer.MAX_VALUE, 65536};
        for (int told : refused) {
            CHECK.same("facts " + told, new LandSurvey().sight(2, 0, 0, 0, 0, told), -1);
        }
        CHECK.same("facts 0", new LandSurvey().sight(2, 0, 0, 0, 0, 0), 0);
        CHECK.same("facts 9999", new LandSurvey().sight(2, 0, 0, 0, 0, 9999), 0);
    }

    private static void toldNowWhateverTheView() {
        LandSurvey x = Check.with(PLAIN);
        x.days(5);
        x.view(2);
        x.sight(2, 0, 0, 0, 0, 0);
        CHECK.same("behind the view", x.look(0, 2), 0);
        int[] due = {0, 0, 0, 0, 0, 1};
        for (int day = 0; day <= 5; day++) {
            x.view(day);
            CHECK.same("on day " + day, x.look(0, 2), due[day]);
        }
    }

    private static void withdrawnOnce() {
        LandSurvey x = Check.with(PLAIN);
        x.sight(2, 0, 0, 0, 0, 0);
        x.days(1);
        CHECK.yes("once", x.withdraw(0));
        CHECK.no("again on the same day", x.withdraw(0));
        x.days(1);
        CHECK.no("again on another day", x.withdraw(0));
        int[] due = {1, 0, 0};
        for (int day = 0; day < 3; day++) {
            x.view(day);
            CHECK.same("on day " + day, x.look(0, 2), due[day]);
            CHECK.no("again in another view", x.withdraw(0));
        }
    }

    private static void withdrawnNowWhateverTheView() {
        LandSurvey x = Check.with(PLAIN);
        x.sight(2, 0, 0, 0, 0, 0);
        x.days(5);
        x.view(2);
        CHECK.yes("withdrawn", x.withdraw(0));
        CHECK.same("ahead of it", x.look(0, 2), 1);
        int[] due = {1, 1, 1, 1, 1, 0};
        for (int day = 0; day <= 5; day++) {
            x.view(day);
            CHECK.same("on day " + day, x.look(0, 2), due[day]);
        }
        x.days(1);
        CHECK.same("one day more", x.look(0, 2), 0);
    }

    private static void dipOnce() {
        LandSurvey x = Check.with(PLAIN + "steep 30;");
        x.sight(2, 5, 5, 0, 0, 0);
        CHECK.no("a wrong one", x.dip(0, 4, 10, 0));
        CHECK.no("a wrong one", x.dip(0, 1, 100, 0));
        CHECK.no("a wrong one", x.dip(0, 1, 10, 100));
        CHECK.yes("the first that is right", x.dip(0, 1, 10, 0));
        for (int where = 0; where < 4; where++) {
            CHECK.no("again to " + where, x.dip(0, where, 20, 0));
        }
        CHECK.same("as told first", x.base(0, 6, 5, 0), 510);
        CHECK.same("nothing said to the left", x.base(0, 4, 5, 0), 470);
        x.days(1);
        CHECK.no("on another day", x.dip(0, 0, 20, 0));
        x.sight(2, 5, 5, 0, 0, 0);
        CHECK.yes("of another sight", x.dip(1, 0, 20, 0));
        CHECK.same("of another sight", x.base(0, 4, 5, 0), 520);
        LandSurvey edge = Check.with(PLAIN);
        edge.sight(2, 0, 0, 0, 0, 0);
        CHECK.yes("off the land", edge.dip(0, 0, 1, 1));
        CHECK.no("told it is", edge.dip(0, 1, 1, 1));
    }

    private static void dipWays() {
        int[][] beside = {{4, 5}, {6, 5}, {5, 4}, {5, 6}};
        for (int where = 0; where < 4; where++) {
            LandSurvey x = Check.with(PLAIN + "steep 20;");
            x.sight(2, 5, 5, 0, 0, 0);
            CHECK.yes("where " + where, x.dip(0, where, 7, 0));
            for (int way = 0; way < 4; way++) {
                CHECK.same("where " + where + ", seen from " + way, x.base(0, beside[way][0], beside[way][1], 0),
                    way == where ? 507 : 480);
                CHECK.same("where " + where + ", seen from " + way, x.base(0, beside[way][0], beside[way][1], 1),
                    way == where ? 507 : 520);
            }
        }
        int[] refused = {-1, -2, 4, 5, Integer.MIN_VALUE, Integer.MAX_VALUE, 256};
        for (int where : refused) {
            LandSurvey x = Check.with(PLAIN);
            x.sight(2, 5, 5, 0, 0, 0);
            CHECK.no("where " + where, x.dip(0, where, 0, 0));
            CHECK.yes("free still behind " + where, x.dip(0, 0, 0, 0));
        }
    }

    private static void dipHeights() {
        int[] taken = {-99, -98, -1, 0, 1, 98, 99};
        for (int n : taken) {
            LandSurvey x = Check.with(PLAIN + "steep 99;");
            x.sight(2, 5, 5, 0, 0, 0);
            CHECK.yes("n " + n, x.dip(0, 1, n, 0));
            CHECK.same("n " + n, x.base(0, 6, 5, 0), 500 + n);
            CHECK.same("n " + n, x.base(0, 6, 5, 1), 500 + n);
        }
        int[] refused = {-100, -101, 100, 101, Integer.MIN_VALUE, Integer.MAX_VALUE, 65536, -65536};
        for (int n : refused) {
            LandSurvey x = Check.with(PLAIN);
            x.sight(2, 5, 5, 0, 0, 0);
            CHECK.no("n " + n, x.dip(0, 1, n, 0));
            CHECK.yes("free still behind " + n, x.dip(0, 1, 0, 0));
        }
    }

    private static void dipWidths() {
        int[] taken = {0, 1, 98, 99};
        for (int w : taken) {
            LandSurvey x = Check.with(PLAIN + "steep 99;");
            x.sight(2, 5, 5, 0, 0, 0);
            CHECK.yes("w " + w, x.dip(0, 3, -5, w));
            CHECK.same("w " + w, x.base(0, 5, 6, 0), 495 - w);
            CHECK.same("w " + w, x.base(0, 5, 6, 1), 495 + w);
        }
        int[] refused = {-1, -2, 100, 101, Integer.MIN_VALUE, Integer.MAX_VALUE, 65536};
        for (int w : refused) {
            LandSurvey x = Check.with(PLAIN);
            x.sight(2, 5, 5, 0, 0, 0);
            CHECK.no("w " + w, x.dip(0, 1, 0, w));
            CHECK.yes("free still behind " + w, x.dip(0, 1, 0, 0));
        }
    }

    private static void remainOnce() {
        LandSurvey x = Check.with("rock a 0 to 0; rock b 0 to 0; name a when 1; remain 0 from b to b; remain 1 from a to a;");
        x.sight(2, 0, 0, 0, 0, 0);
        CHECK.no("a wrong one", x.remain(0, 10, false));
        CHECK.no("a wrong one", x.remain(0, -1, true));
        CHECK.yes("the first that is right", x.remain(0, 0, false));
        for (int n = 0; n < 10; n++) {
            CHECK.no("again " + n, x.remain(0, n, true));
        }
        CHECK.same("as told first", x.look(0, 3), 1);
        x.days(1);
        CHECK.no("on another day", x.remain(0, 1, false));
        CHECK.same("as told first", x.look(0, 3), 1);
    }

    private static void remainNumbers() {
        for (int n = 0; n <= 9; n++) {
            LandSurvey x = Check.with("rock a 0 to 0; rock b 0 to 0; name a when 1; remain " + n + " from b to b;");
            x.sight(2, 0, 0, 0, 0, 0);
            CHECK.yes("remain " + n, x.remain(0, n, false));
            CHECK.same("remain " + n, x.look(0, 3), 1);
        }
        int[] refused = {-1, -2, 10, 11, Integer.MIN_VALUE, Integer.MAX_VALUE, 256};
        for (int n : refused) {
            LandSurvey x = Check.with(PLAIN);
            x.sight(2, 0, 0, 0, 0, 0);
            CHECK.no("remain " + n, x.remain(0, n, false));
            CHECK.yes("free still behind " + n, x.remain(0, 0, false));
        }
    }

    private static void washedOrNot() {
        LandSurvey x = Check.with("rock a 0 to 0; rock b 0 to 0; name a when 1; remain 0 from b to b;");
        x.sight(2, 0, 0, 0, 0, 0);
        x.sight(2, 0, 0, 0, 0, 0);
        x.remain(0, 0, true);
        x.remain(1, 0, false);
        CHECK.same("washed in", x.look(0, 3), 0);
        CHECK.same("not washed in", x.look(1, 3), 1);
        CHECK.same("one of two", x.count(7), 1);
    }

    private static void viewOfTold() {
        LandSurvey x = Check.with(PLAIN);
        for (int day = 0; day < 4; day++) {
            x.sight(2, day, 0, 0, 0, 0);
            x.days(1);
        }
        for (int day = 0; day <= 4; day++) {
            x.view(day);
            CHECK.same("on day " + day, x.count(3), Math.min(day + 1, 4));
            CHECK.same("told in all", x.count(2), 4);
        }
    }

    private static void viewOfWithdrawn() {
        LandSurvey x = Check.with(PLAIN);
        for (int k = 0; k < 4; k++) {
            x.sight(2, k, 0, 0, 0, 0);
        }
        for (int k = 0; k < 4; k++) {
            x.days(1);
            x.withdraw(k);
        }
        for (int day = 0; day <= 4; day++) {
            x.view(day);
            CHECK.same("on day " + day, x.count(3), 4 - day);
        }
    }

    private static void toldAndWithdrawnOnADay() {
        LandSurvey x = Check.with(PLAIN);
        x.days(2);
        x.sight(2, 0, 0, 0, 0, 0);
        x.withdraw(0);
        x.days(2);
        for (int day = 0; day <= 4; day++) {
            x.view(day);
            CHECK.same("on day " + day, x.look(0, 2), 0);
            CHECK.same("its rock on day " + day, x.look(0, 0), 0);
        }
    }

    private static void viewOfRules() {
        LandSurvey x = new LandSurvey();
        x.days(1);
        Check.rules(x, "rock a 0 to 0;");
        x.days(2);
        Check.rules(x, "rock a 0 to 0; rock b 0 to 0;");
        x.days(1);
        int[] due = {0, 1, 1, 2, 2};
        for (int day = 0; day <= 4; day++) {
            x.view(day);
            CHECK.same("rocks on day " + day, x.count(4), due[day]);
        }
    }

    private static void viewGoesWithNow() {
        LandSurvey x = Check.with(PLAIN);
        CHECK.same("at first", x.count(1), 0);
        x.days(3);
        CHECK.same("goes with now", x.count(1), 3);
        x.view(1);
        x.days(3);
        x.sight(2, 0, 0, 0, 0, 0);
        CHECK.same("stays", x.count(1), 1);
        CHECK.same("stays", x.count(3), 0);
        CHECK.no("behind now", x.view(7));
        CHECK.no("below 0", x.view(-1));
        CHECK.same("stays behind a refusal", x.count(1), 1);
        x.view(6);
        x.days(1);
        CHECK.same("now again", x.count(1), 7);
        CHECK.same("now again", x.count(3), 1);
        x.view(6);
        x.days(1);
        CHECK.same("a day that was now", x.count(1), 6);
        LandSurvey y = new LandSurvey();
        y.view(0);
        y.days(2);
        CHECK.same("told on the day that it is", y.count(1), 2);
    }

    private static void allElseIsAsItIs() {
        LandSurvey x = Check.with("rock a 1 to 1; rock b 2 to 2; name a when 1; holds a; tight b;");
        x.sight(2, 0, 0, 100, 0, 0);
        x.days(5);
        x.cell(0, 0, 700, false);
        x.fold(0, 0, true);
        x.own(0, 0, 1);
        x.dip(0, 1, 5, 0);
        x.remain(0, 0, false);
        x.fault(0, 0, true, 8, 0, 0, 1);
        x.rivalry(7);
        x.question(0, 0, true);
        x.place(0, 0, 1);
        x.view(0);
        CHECK.same("height and fold", x.look(0, 6), 600);
        CHECK.same("dip", x.base(0, 1, 0, 1), 605);
        CHECK.same("owner", x.seam(0, 1, 1), 1);
        CHECK.same("breaks and rivalry", x.best(3), 2);
        CHECK.same("covered", x.sight(0, 0, 0, 0, 0, 0), -1);
        CHECK.same("breaks", x.count(5), 1);
        CHECK.same("questions", x.count(11), 1);
        CHECK.same("places", x.count(12), 1);
        CHECK.no("a remain", x.remain(0, 0, false));
    }
}
