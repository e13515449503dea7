/** The edges that section 3 of the document names: sights, dips, breaks, grounds and what lies in them. */
public final class GroundsEdgesTest {
    private static final Check CHECK = new Check();
    private static final Sentences DOC = new Sentences("edges of the grounds", CHECK);
    private static final String GROUNDS = "3 GROUNDS";
    private static final String PLAIN = "rock a 0 to 0; name a when 1; ";
    private static final int LOWEST = Integer.MIN_VALUE;
    private static final int HIGHEST = Integer.MAX_VALUE;

    private GroundsEdgesTest() {
    }

    public static void main(String[] args) {
        saidBySights();
        breaks();
        neighbours();
        grounds();
        mayLie();
        lines();
        depths();
        DOC.end();
    }

    private static void saidBySights() {
        DOC.test(15, GROUNDS, "the oldest lowest (the youngest, where it is turned over)", GroundsEdgesTest::orders);
        DOC.test(20, GROUNDS, "on the BASE (a height of any sign)", GroundsEdgesTest::anySign);
        DOC.test(15, GROUNDS, "the sums of the least, the greatest thickness of all that lie below it there", GroundsEdgesTest::underEach);
        DOC.test(15, GROUNDS, "the BASE is at least z - UNDER HIGH - the ROCK's greatest thickness, at most z - UNDER LOW",
            GroundsEdgesTest::furthestBounds);
        DOC.test(15, GROUNDS, "of kind 1 at least so much less drift, at most so much and drift", GroundsEdgesTest::driftOfLooseAlone);
        DOC.test(15, GROUNDS, "A SIGHT (in THE VIEW, with a ROCK; others say nothing)", GroundsEdgesTest::othersSayNothing);
        DOC.test(8, GROUNDS, "Its DIP says what it says, if the neighbour is on THE LAND", GroundsEdgesTest::dipsOffTheLand);
    }

    private static void breaks() {
        DOC.test(13, GROUNDS, "BREAKS, 4 at most", GroundsEdgesTest::fourBreaks);
        DOC.test(13, GROUNDS, "a line of 1 to 12 SIDES from a CELL on", GroundsEdgesTest::numbersOfSides);
        DOC.test(13, GROUNDS, "across: the sides below that CELL and those to the right of it", () -> sidesOf(false));
        DOC.test(13, GROUNDS, "down: the sides to the right of that CELL and those below it", () -> sidesOf(true));
        DOC.test(13, GROUNDS, "as far as THE LAND goes (all of its SIDES must be between two CELLS)", GroundsEdgesTest::sidesOnTheLand);
        DOC.test(13, GROUNDS, "a throw from .. to (-300 to 300)", GroundsEdgesTest::throwNumbers);
        DOC.test(13, GROUNDS, "beyond each of its SIDES (below, to the right) the BASE is so much higher", GroundsEdgesTest::higherBeyond);
        DOC.test(13, GROUNDS, "a cost (1 to 99)", GroundsEdgesTest::breakCosts);
    }

    private static void neighbours() {
        DOC.test(20, GROUNDS, "Between neighbours the BASE changes by steep at most either way", GroundsEdgesTest::steepAtMost);
        DOC.test(20, GROUNDS, "as all of these say, steep or not", GroundsEdgesTest::asAllDipsSay);
        DOC.test(20, GROUNDS, "as all of these say, steep or not", GroundsEdgesTest::dipsUpAStair);
        DOC.test(17, GROUNDS, "as all of these say, steep or not", () -> windingRing(false));
        DOC.test(17, GROUNDS, "as all of these say, steep or not", () -> windingRing(true));
        DOC.test(17, GROUNDS, "if SIGHTS that are not doubted say a DIP of the two", GroundsEdgesTest::dipsOfDoubted);
        DOC.test(20, GROUNDS, "as its throw says, alone (of several the least BREAK)", GroundsEdgesTest::throwAlone);
        DOC.test(20, GROUNDS, "as its throw says, alone (of several the least BREAK)", GroundsEdgesTest::leastOfSeveral);
        DOC.test(20, GROUNDS, "But if a BREAK in use has the SIDE", GroundsEdgesTest::breaksNotInUse);
    }

    private static void grounds() {
        DOC.test(17, GROUNDS, "a set of 3 SIGHTS at most that are doubted", GroundsEdgesTest::threeDoubted);
        DOC.test(16, GROUNDS, "a set of 3 SIGHTS at most that are doubted", GroundsEdgesTest::fourToDoubt);
        DOC.test(16, GROUNDS, "the costs of its BREAKS and the WORTHS of its SIGHTS doubted", GroundsEdgesTest::greatestCost);
        DOC.test(17, GROUNDS, "of equal ones that with the least set of SIGHTS (as a number, SIGHT k being 2 to the k)",
            GroundsEdgesTest::leastSetOfSights);
        DOC.test(16, GROUNDS, "some have none", GroundsEdgesTest::someHaveNone);
        DOC.test(17, GROUNDS, "(SIGHTS that say nothing are not doubted.)", GroundsEdgesTest::silentAreNotDoubted);
        DOC.test(18, GROUNDS, "of equal ones with the least set of BREAKS (as a number)", GroundsEdgesTest::leastSetOfBreaks);
        DOC.test(19, GROUNDS, "KEPT are all GROUNDS whose COST is at most RIVALRY (0 to 999; 0 at first) above that", GroundsEdgesTest::rivals);
        DOC.test(14, GROUNDS, "KEPT are all GROUNDS whose COST is at most RIVALRY (0 to 999; 0 at first) above that", GroundsEdgesTest::rivalries);
        DOC.test(20, GROUNDS, "unknown if no SIGHT that is not doubted says anything of a BASE", GroundsEdgesTest::unknownBase);
        DOC.test(20, GROUNDS, "unknown if no SIGHT that is not doubted says anything of a BASE", GroundsEdgesTest::allAreDoubted);
        DOC.test(20, GROUNDS, "(a DIP alone does not)", GroundsEdgesTest::dipAlone);
    }

    private static void mayLie() {
        DOC.test(21, GROUNDS, "a rock with some BASE from LOW to HIGH for which it lies there (as a SIGHT of kind 2 says)",
            GroundsEdgesTest::rocksThatMayLie);
        DOC.test(21, GROUNDS, "bit 10: below all: HIGH above z", GroundsEdgesTest::belowAll);
        DOC.test(21, GROUNDS, "bit 11: above all: z above LOW and the sum of all least thicknesses", GroundsEdgesTest::aboveAll);
        DOC.test(21, GROUNDS, "By all KEPT: all bits of these", GroundsEdgesTest::bitsOfAllKept);
        DOC.test(21, GROUNDS, "(Unknown: all rocks and both.)", GroundsEdgesTest::unknownBits);
    }

    private static void lines() {
        DOC.test(22, GROUNDS, "agree: of 1000 KEPT, cut, how many have both one bit, others", GroundsEdgesTest::agree);
        DOC.test(22, GROUNDS, "apart: how many have nothing in common in them", GroundsEdgesTest::apart);
        DOC.test(22, GROUNDS, "same: how many have both one bit, the same", GroundsEdgesTest::same);
        DOC.test(22, GROUNDS, "kept: how many are KEPT", GroundsEdgesTest::keptFact);
        DOC.test(22, GROUNDS, "As the first draw line says whose E is not 0 (all other facts 0): 3 full, 2 broken, 1 dotted",
            GroundsEdgesTest::drawLines);
        DOC.test(22, GROUNDS, "without such a one: 3 if agree is 1000, else 2 if apart is, else 0 (no line) if same is, else 1",
            GroundsEdgesTest::withoutDrawLines);
    }

    private static void depths() {
        DOC.test(23, GROUNDS, "height - HIGH - UNDER HIGH - its greatest thickness, to height - LOW - UNDER LOW - its least thickness",
            GroundsEdgesTest::tops);
        DOC.test(23, GROUNDS, "by all KEPT from the least to the greatest", GroundsEdgesTest::topsByAllKept);
        DOC.test(24, GROUNDS, "the uppermost rock there that holds, with a tight one next below it", GroundsEdgesTest::uppermostThatHolds);
        DOC.test(24, GROUNDS, "(height - HIGH - UNDER HIGH is 0 at least)", GroundsEdgesTest::footAtTheGround);
        DOC.test(24, GROUNDS, "whose foot is not above the ground in any KEPT", GroundsEdgesTest::footInAnyKept);
        DOC.test(25, GROUNDS, "the sum over its CELLS of the least thickness, if the least DEEP is 0 at least (else 0)",
            GroundsEdgesTest::leastSeam);
        DOC.test(25, GROUNDS, "to the sum of the greatest thickness, if its foot's greatest depth (height - LOW - UNDER LOW by all KEPT, "
            + "the greatest) is above 0 (else 0)", GroundsEdgesTest::greatestSeam);
    }

    private static void span(LandSurvey x, int set, int column, int line, int low, int high) {
        CHECK.same("low of " + column + ", " + line + " in " + set, x.base(set, column, line, 0), low);
        CHECK.same("high of " + column + ", " + line + " in " + set, x.base(set, column, line, 1), high);
    }

    private static void says(LandSurvey x, int sight, int least, int most) {
        CHECK.same("at least, by " + sight, x.look(sight, 5), least);
        CHECK.same("at most, by " + sight, x.look(sight, 6), most);
    }

    private static String tenRocks(String span) {
        StringBuilder text = new StringBuilder();
        for (int r = 0; r < 10; r++) {
            text.append("rock ").append((char) ('a' + r)).append(' ').append(span).append(';');
        }
        return text.toString();
    }

    private static LandSurvey bores(String rules, int... depths) {
        LandSurvey x = Check.with(rules);
        for (int k = 0; k < depths.length; k++) {
            x.sight(2, k, 0, depths[k], 0, 0);
        }
        return x;
    }

    private static void orders() {
        LandSurvey x = Check.with("rock a 1 to 2; rock b 10 to 20; rock c 50 to 90; name a when colour = 0; name b when colour = 1;"
            + "name c when colour = 2;");
        int[][] due = {{500 - 112, 440}, {500 - 110, 450}, {500 - 90, 500}};
        int[][] turned = {{498, 500}, {500 - 22, 499}, {500 - 112, 489}};
        for (int k = 0; k < 3; k++) {
            x.sight(2, 4, 4, 0, 0, 1000 * k);
            says(x, k, due[k][0], due[k][1]);
        }
        x.fold(4, 4, true);
        for (int k = 0; k < 3; k++) {
            says(x, k, turned[k][0], turned[k][1]);
        }
    }

    private static void anySign() {
        LandSurvey x = Check.with(PLAIN + "steep 0;");
        x.cell(0, 0, 0, true);
        x.sight(2, 0, 0, 0, 0, 0);
        span(x, 0, 5, 5, 0, 0);
        LandSurvey y = Check.with(PLAIN + "steep 0;");
        y.cell(0, 0, 0, true);
        y.sight(2, 0, 0, 1, 0, 0);
        span(y, 0, 5, 5, -1, -1);
        LandSurvey z = Check.with(PLAIN + "steep 1;");
        z.cell(0, 0, 0, true);
        z.sight(2, 0, 0, 999, 0, 0);
        span(z, 0, 0, 0, -999, -999);
        span(z, 0, 11, 7, -1017, -981);
        LandSurvey w = Check.with(PLAIN + "steep 99;");
        w.cell(0, 0, 999, true);
        w.sight(2, 0, 0, 0, 0, 0);
        span(w, 0, 11, 7, 999 - 18 * 99, 999 + 18 * 99);
    }

    private static void underEach() {
        LandSurvey x = Check.with(tenRocks("1 to 3") + "name j when colour = 0; name i when colour = 1; name a when colour = 2;");
        x.sight(2, 0, 0, 0, 0, 0);
        x.sight(2, 0, 0, 0, 0, 1000);
        x.sight(2, 0, 0, 0, 0, 2000);
        says(x, 0, 497, 500);
        says(x, 1, 494, 499);
        says(x, 2, 470, 491);
        x.fold(0, 0, true);
        says(x, 0, 470, 491);
        says(x, 1, 473, 492);
        says(x, 2, 497, 500);
        LandSurvey one = Check.with("rock a 7 to 9; name a when 1;");
        one.sight(2, 0, 0, 0, 0, 0);
        says(one, 0, 491, 500);
        one.fold(0, 0, true);
        says(one, 0, 491, 500);
    }

    private static void furthestBounds() {
        LandSurvey x = Check.with(tenRocks("200 to 200") + "name a when 1; drift 99;");
        x.cell(0, 0, 0, true);
        x.sight(2, 0, 0, 999, 0, 0);
        says(x, 0, -999 - 2000, -999 - 1800);
        x.sight(1, 0, 0, 0, 0, 0);
        says(x, 1, -2000 - 99, -1800 + 99);
        LandSurvey y = Check.with(tenRocks("0 to 200") + "name a when colour = 0; name j when 1; drift 99;");
        y.cell(11, 7, 999, true);
        y.sight(2, 11, 7, 0, 0, 0);
        y.sight(1, 11, 7, 0, 0, 9000);
        says(y, 0, -1001, 999);
        says(y, 1, 799 - 99, 999 + 99);
        LandSurvey z = Check.with(tenRocks("0 to 0") + "name a when 1;");
        z.sight(2, 0, 0, 500, 0, 0);
        says(z, 0, 0, 0);
    }

    private static void driftOfLooseAlone() {
        LandSurvey x = Check.with("rock a 10 to 30; name a when 1; drift 7;");
        for (int kind = 0; kind <= 4; kind++) {
            x.sight(kind, 0, 0, 0, 0, 0);
            says(x, kind, kind == 1 ? 463 : 470, kind == 1 ? 507 : 500);
        }
        LandSurvey y = Check.with("rock a 10 to 30; name a when 1; drift 0;");
        y.sight(1, 0, 0, 0, 0, 0);
        says(y, 0, 470, 500);
    }

    private static void othersSayNothing() {
        LandSurvey x = Check.with("rock a 0 to 0; name a when colour = 1; steep 0;");
        x.sight(2, 0, 0, 10, 0, 1000);
        x.sight(2, 0, 0, 20, 0, 2000);
        x.dip(1, 1, 50, 0);
        CHECK.same("one without a rock", x.best(1), 0);
        span(x, 0, 1, 0, 490, 490);
        x.days(1);
        x.sight(2, 0, 0, 30, 0, 1000);
        CHECK.same("one more", x.best(1), 10);
        x.view(0);
        CHECK.same("one that is not in the view", x.best(1), 0);
        x.view(1);
        x.withdraw(2);
        CHECK.same("one that is withdrawn", x.best(1), 0);
    }

    private static void dipsOffTheLand() {
        int[][] edges = {{0, 4}, {11, 4}, {5, 0}, {5, 7}};
        for (int where = 0; where < 4; where++) {
            LandSurvey x = Check.with(PLAIN + "steep 0;");
            x.sight(2, edges[where][0], edges[where][1], 0, 0, 0);
            CHECK.yes("taken", x.dip(0, where, 50, 0));
            CHECK.same("nothing is doubted", x.best(1), 0);
            CHECK.same("says something itself", x.look(0, 2), 1);
            for (int column = 0; column < 12; column += 11) {
                span(x, 0, column, edges[where][1], 500, 500);
            }
            span(x, 0, 0, (edges[where][1] + 1) % 8, 500, 500);
        }
    }

    private static void fourBreaks() {
        LandSurvey x = new LandSurvey();
        for (int k = 0; k < 4; k++) {
            CHECK.same("set " + (1 << k) + " is none yet", x.cost(1 << k), -1);
            CHECK.same("break " + k, x.fault(k, 0, true, 8, 0, 0, 1 << k), k);
        }
        CHECK.same("one too many", x.fault(5, 0, true, 8, 0, 0, 1), -1);
        CHECK.same("one too many across", x.fault(5, 0, false, 1, 0, 0, 1), -1);
        CHECK.same("four", x.count(5), 4);
        for (int set = 0; set < 16; set++) {
            CHECK.same("cost of " + set, x.cost(set), set);
        }
        CHECK.same("no such set", x.cost(16), -1);
    }

    private static void numbersOfSides() {
        for (int sides = 1; sides <= 12; sides++) {
            CHECK.same("across " + sides, new LandSurvey().fault(0, 0, false, sides, 0, 0, 1), 0);
            CHECK.same("down " + sides, new LandSurvey().fault(0, 0, true, sides, 0, 0, 1), sides <= 8 ? 0 : -1);
        }
        int[] refused = {0, -1, -12, 13, 14, 256, LOWEST, LOWEST + 1, HIGHEST, HIGHEST - 11};
        for (int sides : refused) {
            LandSurvey x = new LandSurvey();
            CHECK.same("across " + sides, x.fault(0, 0, false, sides, 0, 0, 1), -1);
            CHECK.same("down " + sides, x.fault(0, 0, true, sides, 0, 0, 1), -1);
            CHECK.same("across from the last " + sides, x.fault(11, 6, false, sides, 0, 0, 1), -1);
            CHECK.same("down from the last " + sides, x.fault(10, 7, true, sides, 0, 0, 1), -1);
            CHECK.same("none behind " + sides, x.count(5), 0);
        }
    }

    /** Three sides from the cell 4, 3 on: a throw of nothing makes the base alike beyond these sides alone. */
    private static void sidesOf(boolean down) {
        for (int n = -1; n <= 3; n++) {
            for (int beside = -1; beside <= 1; beside++) {
                LandSurvey x = Check.with(PLAIN + "steep 20;");
                x.fault(4, 3, down, 3, 0, 0, 1);
                int column = 4 + (down ? beside : n);
                int line = 3 + (down ? n : beside);
                x.sight(2, column, line, 0, 0, 0);
                boolean broken = n >= 0 && n < 3 && beside == 0;
                int width = broken ? 0 : 20;
                span(x, 1, column + (down ? 1 : 0), line + (down ? 0 : 1), 500 - width, 500 + width);
                span(x, 0, column + (down ? 1 : 0), line + (down ? 0 : 1), 480, 520);
            }
        }
    }

    private static void sidesOnTheLand() {
        for (int column = 0; column < 12; column++) {
            for (int line = 0; line < 8; line++) {
                int acrossRoom = line < 7 ? 12 - column : 0;
                int downRoom = column < 11 ? 8 - line : 0;
                LandSurvey x = new LandSurvey();
                CHECK.same("too far across", x.fault(column, line, false, acrossRoom + 1, 0, 0, 1), -1);
                CHECK.same("too far down", x.fault(column, line, true, downRoom + 1, 0, 0, 1), -1);
                int told = 0;
                if (acrossRoom > 0) {
                    CHECK.same("as far as can be across", x.fault(column, line, false, acrossRoom, 0, 0, 1), told);
                    told++;
                }
                if (downRoom > 0) {
                    CHECK.same("as far as can be down", x.fault(column, line, true, downRoom, 0, 0, 1), told);
                    told++;
                }
                CHECK.same("breaks at " + column + ", " + line, x.count(5), told);
            }
        }
    }

    private static void throwNumbers() {
        int[][] taken = {{-300, 300}, {-300, -300}, {300, 300}, {0, 0}, {-1, 0}, {0, 1}, {299, 300}, {-300, -299}};
        for (int[] span : taken) {
            LandSurvey x = Check.with(PLAIN);
            CHECK.same("throw " + span[0] + " to " + span[1], x.fault(5, 0, true, 8, span[0], span[1], 1), 0);
            x.sight(2, 5, 4, 0, 0, 0);
            span(x, 1, 6, 4, 500 + span[0], 500 + span[1]);
        }
        int[][] refused = {{-301, 300}, {-300, 301}, {-301, -301}, {301, 301}, {1, 0}, {300, -300}, {0, -1}, {300, 299}, {LOWEST, 0},
            {0, HIGHEST}, {LOWEST, HIGHEST}, {HIGHEST, LOWEST}, {0, LOWEST}, {HIGHEST, 0}, {LOWEST, LOWEST}, {HIGHEST, HIGHEST}};
        for (int[] span : refused) {
            LandSurvey x = new LandSurvey();
            CHECK.same("throw " + span[0] + " to " + span[1], x.fault(5, 0, true, 8, span[0], span[1], 1), -1);
            CHECK.same("throw across " + span[0] + " to " + span[1], x.fault(0, 5, false, 8, span[0], span[1], 1), -1);
            CHECK.same("none behind it", x.count(5), 0);
        }
    }

    private static void higherBeyond() {
        LandSurvey x = Check.with(PLAIN + "steep 0;");
        x.fault(5, 0, true, 8, 30, 40, 1);
        x.fault(0, 3, false, 12, -20, 10, 1);
        x.sight(2, 5, 3, 0, 0, 0);
        span(x, 1, 6, 3, 530, 540);
        span(x, 1, 11, 7, 530, 540);
        span(x, 1, 0, 0, 500, 500);
        span(x, 2, 5, 4, 480, 510);
        span(x, 2, 0, 3, 500, 500);
        span(x, 3, 6, 4, 510, 550);
        LandSurvey y = Check.with(PLAIN + "steep 0;");
        y.fault(5, 0, true, 8, 30, 40, 1);
        y.fault(0, 3, false, 12, -20, 10, 1);
        y.sight(2, 6, 4, 0, 0, 0);
        span(y, 1, 5, 4, 460, 470);
        span(y, 2, 6, 3, 490, 520);
    }

    private static void breakCosts() {
        int[] taken = {1, 2, 98, 99};
        for (int cost : taken) {
            LandSurvey x = new LandSurvey();
            CHECK.same("cost " + cost, x.fault(0, 0, true, 8, 0, 0, cost), 0);
            CHECK.same("cost " + cost, x.cost(1), cost);
            CHECK.same("nothing without it", x.cost(0), 0);
        }
        int[] refused = {0, -1, 100, 101, LOWEST, HIGHEST, 256, 65537};
        for (int cost : refused) {
            LandSurvey x = new LandSurvey();
            CHECK.same("cost " + cost, x.fault(0, 0, true, 8, 0, 0, cost), -1);
            CHECK.same("none behind it", x.count(5), 0);
        }
    }

    private static void steepAtMost() {
        for (int steep = 0; steep <= 99; steep += 33) {
            LandSurvey x = bores(PLAIN + "steep " + steep + ";", 100, 100 + steep);
            CHECK.same("steep " + steep + " down", x.best(1), 0);
            LandSurvey y = bores(PLAIN + "steep " + steep + ";", 100 + steep, 100);
            CHECK.same("steep " + steep + " up", y.best(1), 0);
            LandSurvey z = bores(PLAIN + "steep " + steep + ";", 100, 101 + steep);
            CHECK.same("more than steep " + steep + " down", z.best(2), 1);
            LandSurvey w = bores(PLAIN + "steep " + steep + ";", 101 + steep, 100);
            CHECK.same("more than steep " + steep + " up", w.best(2), 1);
        }
        LandSurvey far = Check.with(PLAIN + "steep 1;");
        far.sight(2, 0, 0, 100, 0, 0);
        far.sight(2, 11, 7, 118, 0, 0);
        CHECK.same("18 sides off", far.best(1), 0);
        LandSurvey further = Check.with(PLAIN + "steep 1;");
        further.sight(2, 0, 0, 100, 0, 0);
        further.sight(2, 11, 7, 119, 0, 0);
        CHECK.same("one more than 18 sides", further.best(1), 10);
    }

    private static LandSurvey dips(String rules, int... told) {
        LandSurvey x = Check.with(rules);
        for (int k = 0; k < told.length; k += 2) {
            x.sight(2, 4, 4, 0, 0, 0);
            x.dip(k / 2, 1, told[k], told[k + 1]);
        }
        return x;
    }

    private static void asAllDipsSay() {
        span(dips(PLAIN + "steep 40;", 10, 5), 0, 5, 4, 505, 515);
        span(dips(PLAIN + "steep 40;", 50, 30), 0, 5, 4, 520, 580);
        span(dips(PLAIN + "steep 40;", 10, 5, 18, 5), 0, 5, 4, 513, 515);
        span(dips(PLAIN + "steep 40;", 10, 5, 20, 5), 0, 5, 4, 515, 515);
        CHECK.same("one apart", dips(PLAIN + "steep 40;", 10, 5, 21, 5).best(2), 1);
        CHECK.same("together", dips(PLAIN + "steep 40;", 10, 5, 20, 5, 15, 0).best(2), 0);
        span(dips(PLAIN + "steep 40;", -99, 99), 0, 5, 4, 500 - 3 * 40, 500);
        span(dips(PLAIN + "steep 99;", 99, 99), 0, 5, 4, 500, 698);
        // the way round is three sides long: a dip of thrice steep fits, one more does not
        CHECK.same("three times steep", dips(PLAIN + "steep 33;", 99, 0).best(2), 0);
        CHECK.same("one more than three times steep", dips(PLAIN + "steep 32;", 97, 0).best(2), 1);
        CHECK.same("less by w", dips(PLAIN + "steep 32;", 97, 1).best(2), 0);
        LandSurvey either = Check.with(PLAIN + "steep 40;");
        either.sight(2, 4, 4, 0, 0, 0);
        either.cell(5, 4, 512, true);
        either.sight(2, 5, 4, 0, 0, 0);
        either.dip(0, 1, 10, 5);
        either.dip(1, 0, -10, 2);
        CHECK.same("told from either cell", either.best(2), 0);
        either.cell(5, 4, 513, true);
        CHECK.same("told from either cell, one more", either.best(2), 1);
    }

    /** From one corner to another by turns: each step binds the next cell, so one end is known by the other. */
    private static void dipsUpAStair() {
        int[][] corners = {{0, 7, 1, -1}, {7, 0, -1, 1}, {0, 0, 1, 1}, {7, 7, -1, -1}};
        for (int[] corner : corners) {
            LandSurvey x = Check.with(tenRocks("0 to 200") + "name a when colour = 0; name j when 1; steep 99;");
            int column = corner[0];
            int line = corner[1];
            for (int step = 0; step < 14; step++) {
                x.sight(2, column, line, 0, 0, 0);
                boolean aside = step % 2 == 0;
                x.dip(step, aside ? (corner[2] < 0 ? 0 : 1) : (corner[3] < 0 ? 2 : 3), step - 7, 0);
                column += aside ? corner[2] : 0;
                line += aside ? 0 : corner[3];
            }
            x.place(corner[0], corner[1], 1);
            x.question(column, line, true);
            x.sight(2, corner[0], corner[1], 0, 1, 9000);
            CHECK.same("nothing is doubted", x.best(1), 0);
            span(x, 0, corner[0], corner[1], 300, 500);
            span(x, 0, column, line, 293, 493);
            CHECK.same("all is left open", x.doubt(), 200);
            CHECK.same("nothing is left by a bore", x.left(0), 0);
            x.sight(2, corner[0], corner[1], 200, 1, 9000);
            span(x, 0, corner[0], corner[1], 300, 300);
            span(x, 0, column, line, 293, 293);
            CHECK.same("nothing is open", x.doubt(), 0);
        }
    }

    /** Cells of a ring that goes up and down through all columns and back along the line below them. */
    private static int[][] ring() {
        int[][] cells = new int[36][];
        int n = 0;
        for (int column = 0; column < 12; column++) {
            boolean up = column % 2 == 0;
            cells[n++] = new int[] {column, up ? 5 : 4};
            cells[n++] = new int[] {column, up ? 4 : 5};
        }
        for (int column = 11; column >= 0; column--) {
            cells[n++] = new int[] {column, 6};
        }
        return cells;
    }

    /**
     * Dips that lead round the ring to a base that is one higher than it was: all of them are in the clash, and it
     * is found only when the ring has been gone round. Two deep sights in the corner keep out of it.
     */
    private static void windingRing(boolean back) {
        int[][] ring = ring();
        LandSurvey x = Check.with(tenRocks("0 to 200") + "name a when 1; steep 99; rank 9 when hand = 1;");
        x.sight(2, 0, 0, 999, 0, 0);
        x.sight(2, 1, 0, 999, 0, 0);
        for (int k = 0; k < ring.length; k++) {
            int[] here = ring[k];
            int[] there = ring[(k + (back ? ring.length - 1 : 1)) % ring.length];
            int where = here[1] == there[1] ? (there[0] < here[0] ? 0 : 1) : (there[1] < here[1] ? 2 : 3);
            CHECK.same("sight", x.sight(2, here[0], here[1], 0, k == 20 ? 1 : 0, 0), 2 + k);
            CHECK.yes("dip", x.dip(2 + k, where, k == 13 ? 1 : 0, 0));
        }
        CHECK.same("one is doubted", x.best(2), 1);
        CHECK.same("the cheapest", x.doubted(0, 0), 22);
        CHECK.same("cost", x.best(1), 9);
        x.fault(0, 5, false, 1, 1, 1, 8);
        x.fault(0, 5, false, 1, 0, 0, 8);
        x.fault(11, 5, false, 1, back ? 1 : -1, back ? 1 : -1, 8);
        CHECK.same("a throw that makes up for it, the one way round alone", x.cost(1), back ? 17 : 8);
        CHECK.same("a throw that changes nothing", x.cost(2), 17);
        CHECK.same("a throw that makes up for it", x.cost(4), 8);
        x.withdraw(22);
        CHECK.same("nothing is doubted", x.best(1), 0);
    }

    private static void dipsOfDoubted() {
        LandSurvey x = Check.with(PLAIN + "steep 5; rank 1 when hand = 1;");
        x.sight(2, 4, 4, 0, 0, 0);
        x.sight(2, 4, 4, 1, 1, 0);
        x.dip(1, 1, 3, 0);
        CHECK.same("the cheap one is doubted", x.doubted(0, 0), 1);
        span(x, 0, 5, 4, 495, 505);
        LandSurvey y = Check.with(PLAIN + "steep 5; rank 1 when hand = 1;");
        y.sight(2, 4, 4, 0, 0, 0);
        y.sight(2, 4, 4, 0, 1, 0);
        y.dip(1, 1, 3, 0);
        CHECK.same("none is doubted", y.best(2), 0);
        span(y, 0, 5, 4, 503, 503);
        y.withdraw(1);
        span(y, 0, 5, 4, 495, 505);
    }

    private static void throwAlone() {
        LandSurvey x = Check.with(PLAIN + "steep 40;");
        x.sight(2, 4, 4, 0, 0, 0);
        x.dip(0, 1, 10, 0);
        x.fault(4, 4, true, 1, -7, 60, 5);
        span(x, 0, 5, 4, 510, 510);
        span(x, 1, 5, 4, 493, 560);
        LandSurvey y = Check.with(PLAIN + "steep 0;");
        y.sight(2, 4, 4, 0, 0, 0);
        y.dip(0, 1, 10, 0);
        y.fault(4, 0, true, 8, -300, 300, 5);
        CHECK.same("a dip that can't be", y.cost(0), 10);
        CHECK.same("a dip that is not asked", y.cost(1), 5);
        span(y, 1, 5, 4, 200, 800);
    }

    private static void leastOfSeveral() {
        LandSurvey x = Check.with(PLAIN + "steep 0;");
        x.sight(2, 4, 4, 0, 0, 0);
        for (int k = 0; k < 4; k++) {
            x.fault(4, 0, true, 8, 10 * k, 10 * k, 1);
        }
        for (int set = 1; set < 16; set++) {
            int least = Integer.numberOfTrailingZeros(set);
            span(x, set, 5, 4, 500 + 10 * least, 500 + 10 * least);
            CHECK.same("the cost of all in " + set, x.cost(set), Integer.bitCount(set));
        }
    }

    private static void breaksNotInUse() {
        LandSurvey x = Check.with(PLAIN + "steep 3;");
        x.sight(2, 4, 4, 0, 0, 0);
        x.fault(4, 0, true, 8, 100, 100, 1);
        x.fault(0, 4, false, 12, 200, 200, 1);
        span(x, 0, 5, 5, 494, 506);
        span(x, 1, 5, 5, 597, 603);
        span(x, 2, 5, 5, 697, 703);
        span(x, 3, 5, 5, 800, 800);
    }

    private static void threeDoubted() {
        LandSurvey x = bores(PLAIN + "steep 0;", 0, 1, 2, 3);
        CHECK.same("three", x.best(2), 3);
        CHECK.same("the cost of three", x.cost(0), 30);
        for (int i = 0; i < 3; i++) {
            CHECK.same("doubted " + i, x.doubted(0, i), i);
        }
        CHECK.same("no fourth", x.doubted(0, 3), -1);
        span(x, 0, 7, 7, 497, 497);
    }

    private static void fourToDoubt() {
        LandSurvey x = bores(PLAIN + "steep 0;", 0, 1, 2, 3, 4);
        CHECK.same("four are too many", x.cost(0), -1);
        CHECK.same("no best", x.best(0), -1);
        CHECK.same("nothing kept", x.best(3), 0);
        CHECK.same("none doubted", x.doubted(0, 0), -1);
        CHECK.same("none doubted", x.look(0, 4), 0);
        CHECK.none("no base", () -> x.base(0, 0, 0, 0));
        CHECK.same("not kept", x.kept(0), 0);
        x.sight(2, 5, 0, 4, 0, 0);
        CHECK.same("one more that agrees", x.cost(0), -1);
        x.fault(0, 0, true, 8, -4, -4, 9);
        CHECK.same("three beside a break", x.cost(1), 39);
        CHECK.same("the best is that", x.best(0), 1);
        CHECK.same("the other is not kept", x.kept(0), 0);
        x.rivalry(999);
        CHECK.same("never kept", x.kept(0), 0);
        CHECK.same("one is kept", x.best(3), 1);
    }

    private static void greatestCost() {
        LandSurvey x = bores(PLAIN + "steep 0; rank 99 when 1;", 0, 1, 2, 3);
        for (int k = 0; k < 4; k++) {
            x.fault(0, k, false, 1, 0, 0, 99);
        }
        CHECK.same("three worths", x.cost(0), 297);
        CHECK.same("and four breaks", x.cost(15), 297 + 396);
        CHECK.same("one break", x.cost(8), 297 + 99);
        LandSurvey y = bores(PLAIN + "steep 0; rank 1 when 1;", 0, 1);
        CHECK.same("the least worth", y.cost(0), 1);
        CHECK.same("nothing at all", bores(PLAIN, 0).cost(0), 0);
    }

    /** Forty sights of which those in one tell one base, those in other another; the rest says nothing. */
    private static LandSurvey fortySights(int[] one, int[] other) {
        LandSurvey x = Check.with("rock a 0 to 0; name a when colour < 2; steep 0;");
        int[] facts = new int[40];
        java.util.Arrays.fill(facts, 9000);
        for (int k : one) {
            facts[k] = 0;
        }
        for (int k : other) {
            facts[k] = 1000;
        }
        for (int k = 0; k < 40; k++) {
            x.sight(2, k % 12, k / 12, facts[k] == 1000 ? 5 : 4, 0, facts[k]);
        }
        return x;
    }

    private static void leastSetOfSights() {
        int[][][] pairs = {{{38}, {39}}, {{0}, {39}}, {{31}, {32}}, {{30}, {31}}, {{0}, {1}}, {{1, 38}, {0, 39}}, {{32, 33}, {31, 34}},
            {{36, 37, 38}, {0, 1, 39}}, {{29, 30, 31}, {0, 1, 32}}, {{0, 2, 31}, {1, 3, 32}}};
        for (int[][] pair : pairs) {
            for (int turn = 0; turn < 2; turn++) {
                LandSurvey x = fortySights(pair[turn], pair[1 - turn]);
                for (int i = 0; i < pair[0].length; i++) {
                    CHECK.same("doubted " + i, x.doubted(0, i), pair[0][i]);
                    CHECK.same("looked at", x.look(pair[0][i], 4), 1);
                    CHECK.same("not doubted", x.look(pair[1][i], 4), 0);
                }
                CHECK.same("no more", x.doubted(0, pair[0].length), -1);
                CHECK.same("cost", x.cost(0), 10 * pair[0].length);
            }
        }
        LandSurvey cheap = Check.with(PLAIN + "steep 0; rank 9 when hand = 1;");
        cheap.sight(2, 0, 0, 0, 0, 0);
        cheap.sight(2, 0, 0, 1, 1, 0);
        CHECK.same("the cost is asked first", cheap.doubted(0, 0), 1);
    }

    private static void someHaveNone() {
        LandSurvey x = Check.with("steep 1;");
        x.fault(4, 4, true, 1, 4, 4, 1);
        x.fault(0, 0, true, 8, 300, 300, 1);
        CHECK.same("round its end", x.cost(1), -1);
        CHECK.same("from edge to edge", x.cost(2), 1);
        CHECK.same("both", x.cost(3), -1);
        CHECK.same("neither", x.cost(0), 0);
        CHECK.same("kept", x.kept(1), 0);
        x.rivalry(999);
        CHECK.same("kept by no rivalry", x.kept(1), 0);
        CHECK.same("two are", x.best(3), 2);
        CHECK.same("none doubted", x.doubted(1, 0), -1);
        LandSurvey y = Check.with(PLAIN + "steep 1;");
        y.sight(2, 0, 0, 0, 0, 0);
        y.fault(4, 4, true, 1, 4, 4, 1);
        CHECK.none("no base", () -> y.base(1, 0, 0, 0));
        CHECK.same("with none there is nothing", allWithout().best(3), 0);
    }

    private static LandSurvey allWithout() {
        LandSurvey x = bores(PLAIN + "steep 0;", 0, 1, 2, 3, 4);
        x.fault(11, 0, false, 1, 0, 0, 1);
        return x;
    }

    private static void silentAreNotDoubted() {
        LandSurvey x = Check.with("rock a 0 to 0; name a when colour; steep 0; rank 1 when hand = 1;");
        x.sight(2, 0, 0, 0, 1, 0);
        x.dip(0, 1, 50, 0);
        x.sight(2, 1, 0, 0, 0, 1000);
        x.sight(2, 2, 0, 1, 0, 1000);
        CHECK.same("the one that says something", x.doubted(0, 0), 1);
        CHECK.same("alone", x.best(2), 1);
        CHECK.same("its cost", x.best(1), 10);
        CHECK.same("the silent one", x.look(0, 4), 0);
        x.days(1);
        x.withdraw(1);
        CHECK.same("withdrawn ones are not", x.best(2), 0);
        CHECK.same("withdrawn ones are not", x.look(1, 4), 0);
    }

    private static void leastSetOfBreaks() {
        LandSurvey x = bores(PLAIN + "steep 0; rank 50 when 1;", 5, 0);
        x.fault(0, 0, true, 8, 5, 5, 3);
        x.fault(0, 0, true, 8, 5, 5, 3);
        CHECK.same("1 ahead of 2", x.best(0), 1);
        x.rivalry(0);
        CHECK.same("both are kept", x.best(3), 2);
        LandSurvey y = bores(PLAIN + "steep 0; rank 50 when 1;", 5, 0, 5);
        y.fault(0, 0, true, 8, 5, 5, 3);
        y.fault(1, 0, true, 8, -5, -5, 3);
        y.fault(0, 0, false, 12, 0, 0, 6);
        CHECK.same("both are needed", y.best(0), 3);
        LandSurvey z = bores(PLAIN + "steep 0; rank 10 when 1;", 5, 0);
        z.fault(0, 0, true, 8, 5, 5, 10);
        CHECK.same("0 ahead of 1", z.best(0), 0);
        CHECK.same("as dear", z.cost(1), 10);
        LandSurvey w = bores(PLAIN + "steep 0; rank 50 when 1;", 5, 0, 5);
        w.fault(0, 0, true, 8, 5, 5, 3);
        w.fault(1, 0, true, 8, -5, -5, 7);
        w.fault(0, 0, true, 8, 5, 5, 5);
        w.fault(1, 0, true, 8, -5, -5, 5);
        // 3 costs 10, so do 12; 9 costs 8 and 6 costs 12
        CHECK.same("the least cost first", w.best(0), 9);
        CHECK.same("its cost", w.best(1), 8);
        LandSurvey v = bores(PLAIN + "steep 0; rank 50 when 1;", 5, 0, 5);
        v.fault(0, 0, true, 8, 5, 5, 4);
        v.fault(1, 0, true, 8, -5, -5, 4);
        v.fault(0, 0, true, 8, 5, 5, 4);
        v.fault(1, 0, true, 8, -5, -5, 4);
        CHECK.same("3 ahead of 6, 9 and 12", v.best(0), 3);
        CHECK.same("four are kept", v.best(3), 4);
    }

    private static LandSurvey rivalsOf(int cost) {
        LandSurvey x = bores(PLAIN + "steep 0;", 5, 0);
        x.fault(0, 0, true, 8, 5, 5, cost);
        return x;
    }

    private static void rivals() {
        LandSurvey x = rivalsOf(10);
        CHECK.same("as dear, rivalry 0 at first", x.kept(1), 1);
        LandSurvey y = rivalsOf(11);
        CHECK.same("one dearer", y.kept(1), 0);
        y.rivalry(1);
        CHECK.same("one dearer within 1", y.kept(1), 1);
        LandSurvey z = rivalsOf(9);
        CHECK.same("the best", z.best(0), 1);
        CHECK.same("one dearer", z.kept(0), 0);
        z.rivalry(1);
        CHECK.same("one dearer within 1", z.kept(0), 1);
        LandSurvey most = bores(PLAIN + "steep 0; rank 99 when 1;", 0);
        for (int k = 0; k < 4; k++) {
            most.fault(k, 0, true, 8, 0, 0, 99);
        }
        most.rivalry(395);
        CHECK.same("all but one", most.best(3), 15);
        most.rivalry(396);
        CHECK.same("all", most.best(3), 16);
        CHECK.same("the dearest", most.kept(15), 1);
        most.rivalry(98);
        CHECK.same("the best alone", most.best(3), 1);
        most.rivalry(99);
        CHECK.same("with one break", most.best(3), 5);
    }

    private static void rivalries() {
        int[] taken = {0, 1, 998, 999};
        for (int n : taken) {
            CHECK.yes("rivalry " + n, new LandSurvey().rivalry(n));
        }
        int[] refused = {-1, -2, 1000, 1001, LOWEST, HIGHEST, 65536};
        for (int n : refused) {
            LandSurvey x = rivalsOf(12);
            x.rivalry(2);
            CHECK.no("rivalry " + n, x.rivalry(n));
            CHECK.same("as it was behind " + n, x.best(3), 2);
        }
        LandSurvey first = rivalsOf(11);
        CHECK.same("0 at first", first.best(3), 1);
    }

    private static void unknownBase() {
        LandSurvey x = Check.with(PLAIN);
        CHECK.none("no sight", () -> x.base(0, 0, 0, 0));
        CHECK.none("no sight", () -> x.base(0, 11, 7, 1));
        x.sight(2, 3, 3, 0, 0, 0);
        CHECK.same("one sight", x.base(0, 3, 3, 0), 500);
        x.withdraw(0);
        CHECK.none("a withdrawn one", () -> x.base(0, 3, 3, 0));
        LandSurvey y = Check.with(PLAIN + "steep 0;");
        y.sight(2, 3, 3, 0, 0, 0);
        y.dip(0, 1, 50, 0);
        CHECK.same("its own dip can't be", y.doubted(0, 0), 0);
        CHECK.none("doubted", () -> y.base(0, 3, 3, 0));
        y.sight(2, 7, 7, 3, 0, 0);
        span(y, 0, 3, 3, 497, 497);
    }

    /** Each of these dips can't be by itself, so each sight that says something is doubted, whatever its number. */
    private static void allAreDoubted() {
        LandSurvey x = Check.with("rock a 0 to 0; name a when colour < 5; steep 0;");
        x.sight(2, 5, 5, 0, 0, 9000);
        for (int k = 1; k <= 3; k++) {
            x.sight(2, 3 * k, 3, k, 0, 0);
            x.dip(k, 1, 50, 0);
            CHECK.same("doubted", x.best(2), k);
            CHECK.same("the last", x.doubted(0, k - 1), k);
            CHECK.none("unknown", () -> x.base(0, 3, 3, 0));
            CHECK.same("all rocks and both", x.lies(3, 3, 0), 3073);
            CHECK.same("no doubt is known", x.doubt(), -1);
        }
        x.sight(2, 0, 7, 4, 0, 0);
        span(x, 0, 3, 3, 496, 496);
    }

    private static void dipAlone() {
        LandSurvey x = Check.with("rock a 0 to 0; name a when colour;");
        x.sight(2, 3, 3, 0, 0, 0);
        x.dip(0, 1, 5, 0);
        CHECK.none("the dip of one without a rock", () -> x.base(0, 3, 3, 0));
        CHECK.same("all rocks and both", x.lies(3, 3, 0), 3073);
        CHECK.same("no doubt is known", x.doubt(), -1);
    }

    /** Base 400 alone: c 30 to 40 lowest, b 0 to 10 on it, a 20 to 25 on top. */
    private static LandSurvey threeRocks() {
        LandSurvey x = Check.with("rock a 20 to 25; rock b 0 to 10; rock c 30 to 40; name c when 1; steep 0;");
        x.sight(2, 0, 0, 60, 0, 0);
        x.sight(2, 1, 0, 100, 0, 0);
        return x;
    }

    private static void rocksThatMayLie() {
        LandSurvey x = threeRocks();
        span(x, 0, 5, 5, 400, 400);
        int[][] due = {{399, 1024}, {400, 4}, {429, 4}, {430, 7}, {440, 7}, {441, 3}, {450, 3}, {451, 2049}, {475, 2049}, {476, 2048}};
        for (int[] at : due) {
            CHECK.same("at height " + at[0], x.lies(5, 5, 500 - at[0]), at[1]);
        }
        x.fold(5, 5, true);
        int[][] turned = {{399, 1024}, {400, 1}, {419, 1}, {420, 7}, {425, 7}, {426, 6}, {435, 6}, {436, 4}, {450, 4}, {451, 2052},
            {475, 2052}, {476, 2048}};
        for (int[] at : turned) {
            CHECK.same("turned, at height " + at[0], x.lies(5, 5, 500 - at[0]), at[1]);
        }
        LandSurvey loose = Check.with("rock a 5 to 5; name a when 1; drift 50; steep 0;");
        loose.sight(2, 0, 0, 5, 0, 0);
        loose.sight(2, 1, 0, 10, 0, 0);
        CHECK.same("without drift", loose.lies(5, 5, 11), 1024);
        LandSurvey bare = Check.with(tenRocks("0 to 0") + "name a when 1; steep 0;");
        bare.sight(2, 0, 0, 0, 0, 0);
        CHECK.same("ten without thickness", bare.lies(5, 5, 0), 1023);
        CHECK.same("one above", bare.lies(5, 5, 1), 1024);
        bare.cell(5, 5, 501, true);
        CHECK.same("one below", bare.lies(5, 5, 0), 2048);
    }

    private static void belowAll() {
        LandSurvey x = Check.with("rock a 10 to 10; name a when 1; steep 4;");
        x.sight(2, 0, 0, 0, 0, 0);
        x.sight(2, 0, 0, 10, 0, 0);
        span(x, 0, 1, 0, 486, 494);
        CHECK.same("z at high", x.lies(1, 0, 6), 1);
        CHECK.same("z one below high", x.lies(1, 0, 7), 1025);
        CHECK.same("z at low", x.lies(1, 0, 14), 1025);
        CHECK.same("z one below low", x.lies(1, 0, 15), 1024);
    }

    private static void aboveAll() {
        LandSurvey x = Check.with("rock a 10 to 30; rock b 5 to 5; name b when 1; steep 4;");
        x.sight(2, 0, 0, 0, 0, 0);
        x.sight(2, 0, 0, 5, 0, 0);
        span(x, 0, 1, 0, 491, 499);
        // least thicknesses 15: above all from 507 on; a as far up as 499 + 35
        x.cell(1, 0, 600, true);
        CHECK.same("z at low and the sum", x.lies(1, 0, 600 - 506), 1);
        CHECK.same("z one above", x.lies(1, 0, 600 - 507), 2049);
        CHECK.same("z at the greatest of all", x.lies(1, 0, 600 - 534), 2049);
        CHECK.same("z above the greatest of all", x.lies(1, 0, 600 - 535), 2048);
    }

    private static void bitsOfAllKept() {
        LandSurvey x = threeRocks();
        x.fault(4, 0, true, 8, 50, 50, 9);
        CHECK.same("the best alone", x.lies(5, 5, 100), 4);
        x.rivalry(8);
        CHECK.same("not yet", x.lies(5, 5, 100), 4);
        x.rivalry(9);
        CHECK.same("both", x.lies(5, 5, 100), 4 | 1024);
        CHECK.same("both", x.lies(5, 5, 24), 4 | 2048);
        CHECK.same("where they agree", x.lies(4, 5, 100), 4);
    }

    private static void unknownBits() {
        for (int rocks = 0; rocks <= 10; rocks++) {
            LandSurvey x = Check.with(tenRocks("0 to 9").substring(0, rocks * "rock a 0 to 9;".length()));
            CHECK.same("of " + rocks + " rocks", x.lies(0, 0, 0), 3072 | (1 << rocks) - 1);
            CHECK.same("of " + rocks + " rocks, at any depth", x.lies(11, 7, 2000), 3072 | (1 << rocks) - 1);
        }
        LandSurvey y = Check.with(PLAIN + "steep 1;");
        y.sight(2, 4, 4, 0, 0, 0);
        y.dip(0, 1, 50, 3);
        y.fault(4, 4, true, 1, 0, 3, 11);
        y.rivalry(1);
        CHECK.same("unknown in one of two", y.lies(4, 4, 0), 3073);
        CHECK.same("a sheet of it", y.drawn(y.sheet(4, 4, 4, 4), 4, 4), 3073);
    }

    /** Base 450 alone under two rocks of 50; 480 shows b, 520 a, 500 both, 600 both a and what is above. */
    private static LandSurvey twoRocks(String rules) {
        LandSurvey x = Check.with("rock a 50 to 50; rock b 50 to 50; name b when 1; steep 0; " + rules);
        x.sight(2, 0, 0, 0, 0, 9999);
        x.sight(2, 1, 0, 50, 0, 9999);
        return x;
    }

    private static int lineOf(LandSurvey x, int here, int there) {
        x.cell(5, 5, here, true);
        x.cell(6, 5, there, true);
        int line = x.line(5, 5, 1);
        CHECK.same("from the other side", x.line(6, 5, 0), line);
        return line;
    }

    private static void agree() {
        CHECK.same("both one bit, others", lineOf(twoRocks("draw dotted when agree = 1000;"), 480, 520), 1);
        CHECK.same("the same", lineOf(twoRocks("draw full when agree = 0;"), 480, 481), 3);
        CHECK.same("one of two bits", lineOf(twoRocks("draw full when agree = 0;"), 480, 500), 3);
        CHECK.same("below all against a rock", lineOf(twoRocks("draw dotted when agree = 1000;"), 449, 480), 1);
        CHECK.same("below all against above all", lineOf(twoRocks("draw dotted when agree = 1000;"), 449, 551), 1);
        LandSurvey x = twoRocks("draw broken when agree = 666; draw dotted when agree = 333; draw full when agree = 250;");
        x.fault(5, 0, true, 8, 50, 50, 4);
        x.fault(9, 0, true, 8, 0, 0, 4);
        x.rivalry(4);
        CHECK.same("two of three, cut", lineOf(x, 480, 520), 2);
        x.rivalry(8);
        CHECK.same("two of four", lineOf(x, 480, 520), 1);
        LandSurvey y = twoRocks("draw dotted when agree = 333;");
        y.fault(5, 0, true, 8, 50, 50, 4);
        y.fault(5, 0, true, 8, 50, 50, 4);
        y.rivalry(4);
        CHECK.same("one of three, cut", lineOf(y, 480, 520), 1);
    }

    private static void apart() {
        CHECK.same("others", lineOf(twoRocks("draw dotted when apart = 1000;"), 480, 520), 1);
        CHECK.same("something in common", lineOf(twoRocks("draw full when apart = 0;"), 480, 500), 3);
        CHECK.same("the same", lineOf(twoRocks("draw full when apart = 0;"), 480, 481), 3);
        CHECK.same("two bits against another", lineOf(twoRocks("draw dotted when apart = 1000 and agree = 0;"), 500, 551), 1);
        LandSurvey x = twoRocks("draw dotted when apart = 500;");
        x.fault(5, 0, true, 8, 50, 50, 4);
        x.rivalry(4);
        CHECK.same("one of two", lineOf(x, 480, 520), 1);
    }

    private static void same() {
        CHECK.same("one rock", lineOf(twoRocks("draw dotted when same = 1000;"), 480, 481), 1);
        CHECK.same("above all", lineOf(twoRocks("draw dotted when same = 1000;"), 551, 999), 1);
        CHECK.same("below all", lineOf(twoRocks("draw dotted when same = 1000;"), 449, 0), 1);
        CHECK.same("two bits, the same", lineOf(twoRocks("draw full when same = 0;"), 500, 500), 3);
        CHECK.same("others", lineOf(twoRocks("draw full when same = 0;"), 480, 520), 3);
        LandSurvey x = twoRocks("draw dotted when same = 333;");
        x.fault(5, 0, true, 8, 50, 50, 4);
        x.fault(9, 0, true, 8, 0, 0, 4);
        x.rivalry(4);
        CHECK.same("one of three, cut", lineOf(x, 480, 520), 1);
    }

    private static void keptFact() {
        LandSurvey x = twoRocks("draw full when kept = 1; draw broken when kept = 2; draw dotted when kept = 16;");
        CHECK.same("one", lineOf(x, 480, 480), 3);
        x.fault(5, 0, true, 8, 50, 50, 99);
        x.rivalry(98);
        CHECK.same("one still", lineOf(x, 480, 480), 3);
        x.rivalry(99);
        CHECK.same("two", lineOf(x, 480, 480), 2);
        for (int k = 0; k < 3; k++) {
            x.fault(5, 0, true, 8, 50, 50, 99);
        }
        x.rivalry(999);
        CHECK.same("sixteen", lineOf(x, 480, 480), 1);
    }

    private static void drawLines() {
        CHECK.same("full", lineOf(twoRocks("draw full when 1;"), 480, 480), 3);
        CHECK.same("broken", lineOf(twoRocks("draw broken when 1;"), 480, 480), 2);
        CHECK.same("dotted", lineOf(twoRocks("draw dotted when 1;"), 480, 520), 1);
        CHECK.same("the first", lineOf(twoRocks("draw dotted when 0; draw broken when 1; draw full when 1;"), 480, 520), 2);
        CHECK.same("below 0 is not 0", lineOf(twoRocks("draw dotted when 0 - 1;"), 480, 520), 1);
        CHECK.same("none of them", lineOf(twoRocks("draw dotted when 0;"), 480, 520), 3);
        CHECK.same("other kinds of lines draw none", lineOf(twoRocks("name a when 1; rank 9 when 1;"), 480, 520), 3);
        String[] others = {"colour", "grain", "hard", "fizz", "kind", "hand", "depth", "height"};
        for (String other : others) {
            CHECK.same(other, lineOf(twoRocks("draw dotted when " + other + "; draw broken when " + other + " = 0;"), 480, 520), 2);
        }
    }

    private static void withoutDrawLines() {
        CHECK.same("agree is 1000", lineOf(twoRocks(""), 480, 520), 3);
        CHECK.same("apart is 1000", lineOf(twoRocks(""), 500, 551), 2);
        CHECK.same("same is 1000", lineOf(twoRocks(""), 480, 481), 0);
        CHECK.same("none is", lineOf(twoRocks(""), 480, 500), 1);
        CHECK.same("two bits, the same", lineOf(twoRocks(""), 500, 500), 1);
        LandSurvey x = twoRocks("");
        x.fault(5, 0, true, 8, 50, 50, 4);
        x.rivalry(4);
        CHECK.same("agree in one, same in the other", lineOf(x, 480, 520), 1);
        LandSurvey y = twoRocks("");
        y.fault(9, 0, true, 8, 50, 50, 4);
        y.rivalry(4);
        CHECK.same("agree in both", lineOf(y, 480, 520), 3);
        CHECK.same("same in both", lineOf(y, 480, 481), 0);
        CHECK.same("unknown", lineOf(Check.with("rock a 0 to 0;"), 0, 999), 1);
        CHECK.same("no rules", lineOf(new LandSurvey(), 0, 999), 1);
    }

    private static void deep(LandSurvey x, int rock, int from, int to) {
        CHECK.same("from, of " + rock, x.deep(5, 5, rock, 0), from);
        CHECK.same("to, of " + rock, x.deep(5, 5, rock, 1), to);
    }

    private static void tops() {
        LandSurvey x = threeRocks();
        deep(x, 0, 500 - 400 - 50 - 25, 500 - 400 - 30 - 20);
        deep(x, 1, 500 - 400 - 40 - 10, 500 - 400 - 30);
        deep(x, 2, 500 - 400 - 40, 500 - 400 - 30);
        x.fold(5, 5, true);
        deep(x, 0, 500 - 400 - 25, 500 - 400 - 20);
        deep(x, 2, 500 - 400 - 35 - 40, 500 - 400 - 20 - 30);
        x.fold(5, 5, false);
        x.cell(5, 5, 0, true);
        deep(x, 0, -475, -450);
        x.cell(5, 5, 450, true);
        deep(x, 0, -25, 0);
    }

    private static void topsByAllKept() {
        LandSurvey x = threeRocks();
        x.fault(4, 0, true, 8, 50, 50, 9);
        x.fault(4, 0, true, 8, -20, -20, 9);
        deep(x, 2, 60, 70);
        x.rivalry(9);
        deep(x, 2, 10, 90);
        x.rivalry(8);
        deep(x, 2, 60, 70);
    }

    private static void uppermostThatHolds() {
        String rocks = "rock a 10 to 10; rock b 10 to 10; rock c 10 to 10; rock d 10 to 10; name d when 1; steep 0; ";
        String[] rules = {"holds a; tight b;", "holds a; tight c;", "holds a; holds c; tight b; tight d;", "holds c; tight d;",
            "holds d; tight c;", "tight b;", "holds a;", "holds d;", "holds a; tight a;", "holds a; holds b; tight c;",
            "holds a; tight a; tight b;", ""};
        int[] due = {70, -1, 70, 90, -1, -1, -1, -1, -1, 80, 70, -1};
        int[] turned = {-1, -1, 80, -1, 70, -1, -1, -1, -1, -1, -1, -1};
        for (int n = 0; n < rules.length; n++) {
            LandSurvey x = Check.with(rocks + rules[n]);
            x.sight(2, 0, 0, 90, 0, 0);
            x.sight(2, 0, 0, 100, 0, 0);
            for (int what = 0; what < 2; what++) {
                CHECK.same("'" + rules[n] + "'", x.water(5, 5, what), due[n]);
            }
            x.fold(5, 5, true);
            CHECK.same("turned, '" + rules[n] + "'", x.water(5, 5, 0), turned[n]);
        }
    }

    private static void footAtTheGround() {
        LandSurvey x = Check.with("rock a 10 to 10; rock b 10 to 20; rock c 10 to 10; name c when 1; steep 0; holds a; tight b; holds b; "
            + "tight c;");
        x.sight(2, 0, 0, 90, 0, 0);
        x.sight(2, 0, 0, 100, 0, 0);
        // base 400: c's top 410, b's top 420 to 430
        x.cell(5, 5, 431, true);
        CHECK.same("one below the ground", x.water(5, 5, 0), 1);
        CHECK.same("one below the ground, to", x.water(5, 5, 1), 11);
        x.cell(5, 5, 430, true);
        CHECK.same("at the ground", x.water(5, 5, 0), 0);
        x.cell(5, 5, 429, true);
        CHECK.same("above the ground: the next that holds", x.water(5, 5, 0), 19);
        x.cell(5, 5, 410, true);
        CHECK.same("the next at the ground", x.water(5, 5, 0), 0);
        CHECK.same("the next at the ground, to", x.water(5, 5, 1), 0);
        x.cell(5, 5, 409, true);
        CHECK.same("none left", x.water(5, 5, 0), -1);
        CHECK.same("none left", x.water(5, 5, 1), -1);
    }

    private static void footInAnyKept() {
        LandSurvey x = Check.with("rock a 10 to 10; rock b 10 to 10; rock c 10 to 10; name c when 1; steep 0; holds a; tight b;");
        x.sight(2, 0, 0, 90, 0, 0);
        x.sight(2, 0, 0, 100, 0, 0);
        x.fault(4, 0, true, 8, 80, 80, 7);
        x.fault(4, 0, true, 8, 81, 81, 8);
        CHECK.same("the best alone", x.water(5, 5, 0), 80);
        x.rivalry(7);
        CHECK.same("at the ground in another", x.water(5, 5, 0), 0);
        CHECK.same("to the greatest", x.water(5, 5, 1), 80);
        x.rivalry(8);
        CHECK.same("above the ground in a third", x.water(5, 5, 0), -1);
        CHECK.same("where they agree", x.water(4, 5, 0), 80);
    }

    private static LandSurvey held() {
        LandSurvey x = Check.with("rock a 10 to 20; rock b 30 to 40; name b when 1; steep 0;");
        x.sight(2, 0, 0, 100, 0, 0);
        x.sight(2, 1, 0, 140, 0, 0);
        x.own(5, 5, 2);
        x.own(6, 6, 2);
        return x;
    }

    private static void leastSeam() {
        LandSurvey x = held();
        // base 360: a's top from 400 to 420
        CHECK.same("both cells", x.seam(0, 2, 0), 20);
        x.cell(5, 5, 420, true);
        CHECK.same("its top at the ground", x.seam(0, 2, 0), 20);
        x.cell(5, 5, 419, true);
        CHECK.same("its top perhaps one above", x.seam(0, 2, 0), 10);
        x.cell(6, 6, 0, true);
        CHECK.same("nowhere", x.seam(0, 2, 0), 0);
        x.cell(5, 5, 400, true);
        CHECK.same("the rock below, its top at the ground", x.seam(1, 2, 0), 30);
        LandSurvey y = held();
        y.fault(5, 0, true, 8, 300, 300, 5);
        y.rivalry(5);
        CHECK.same("in all kept", y.seam(0, 2, 0), 10);
        for (int cell = 0; cell < 96; cell++) {
            y.own(cell % 12, cell / 12, 3);
        }
        y.rivalry(4);
        CHECK.same("under all the land", y.seam(1, 3, 0), 96 * 30);
        CHECK.same("under none of it", y.seam(1, 2, 0), 0);
    }

    private static void greatestSeam() {
        LandSurvey x = held();
        CHECK.same("both cells", x.seam(0, 2, 1), 40);
        x.cell(5, 5, 391, true);
        CHECK.same("its foot one below the ground", x.seam(0, 2, 1), 40);
        x.cell(5, 5, 390, true);
        CHECK.same("its foot at the ground", x.seam(0, 2, 1), 20);
        x.cell(5, 5, 361, true);
        CHECK.same("the lowest one's foot below the ground", x.seam(1, 2, 1), 80);
        x.cell(5, 5, 360, true);
        CHECK.same("the lowest one's foot at the ground", x.seam(1, 2, 1), 40);
        x.fault(4, 0, true, 8, -1, -1, 5);
        x.rivalry(5);
        CHECK.same("the greatest by all kept", x.seam(1, 2, 1), 80);
        LandSurvey thick = Check.with("rock a 200 to 200; name a when 1; steep 0;");
        thick.sight(2, 0, 0, 300, 0, 0);
        for (int cell = 0; cell < 96; cell++) {
            thick.own(cell % 12, cell / 12, 0);
        }
        CHECK.same("the greatest of all", thick.seam(0, 0, 1), 96 * 200);
    }
}
