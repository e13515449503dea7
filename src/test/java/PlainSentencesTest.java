import java.util.ArrayList;
import java.util.List;

/**
 * Those sentences of the sections 2, 3 and 4 that name no boundary but say what a thing is. Where it can be,
 * what is due is found by going through all that could be, not by the sums that the document gives for it.
 */
public final class PlainSentencesTest {
    private static final Check CHECK = new Check();
    private static final Sentences DOC = new Sentences("plain sentences", CHECK);
    private static final String RULES = "2 RULES";
    private static final String GROUNDS = "3 GROUNDS";
    private static final String SHEETS = "4 SHEETS";

    private static final int[][] SPANS = {{1, 2}, {0, 3}, {2, 4}};
    private static final String PILE = "rock a 1 to 2; rock b 0 to 3; rock c 2 to 4; name a when colour = 0; name b when colour = 1;"
        + "name c when colour = 2; steep 1;";

    /** Column, line, depth and hand of each bore; where, n and w of its dip, if it has one; and what it is worth. */
    private static final int[][] BORES = {{2, 2, 0, 0}, {9, 2, 30, 1}, {5, 6, 12, 2}, {3, 2, 60, 0}, {6, 6, 9, 1}, {2, 3, 33, 2},
        {11, 7, 45, 0}};
    private static final int[][] DIPS = {{1, 9, 1}, {3, -3, 2}, {1, 2, 3}, {}, {0, 5, 1}, {2, 8, 4}, {0, 12, 0}};
    private static final int[] WORTHS = {10, 6, 11, 10, 6, 11, 10};
    private static final int[] BREAK_COSTS = {9, 5, 4};
    private static final int SETS = 1 << BREAK_COSTS.length;

    private PlainSentencesTest() {
    }

    public static void main(String[] args) {
        rules();
        piles();
        grounds();
        linesAndWater();
        plansAndHands();
        DOC.end();
    }

    private static void rules() {
        DOC.test(12, RULES, "What stands in [ ] may be left out, { } are for \"any more\"", PlainSentencesTest::leftOutOrMore);
        DOC.test(15, RULES, "THE RULES are those in force on THE VIEW; without any there is no rock", PlainSentencesTest::rulesOfTheView);
        DOC.test(15, RULES, "none without one", PlainSentencesTest::withoutAName);
    }

    private static void piles() {
        DOC.test(21, GROUNDS, "Under each CELL all rocks lie on one another", () -> everyPile(false));
        DOC.test(21, GROUNDS, "each as thick there as it likes within its span", () -> everyPile(true));
        DOC.test(21, GROUNDS, "MAY LIE at a depth under a CELL (z: its height less the depth): of a GROUND with LOW, HIGH",
            PlainSentencesTest::heightLessDepth);
        DOC.test(15, GROUNDS, "says, z being the height of its CELL less its depth, that its ROCK lies there",
            PlainSentencesTest::everyBaseOfASight);
    }

    private static void grounds() {
        DOC.test(20, GROUNDS, "so that there is a BASE for each CELL, all whole numbers, as all else says (SIGHTS that are not doubted, "
            + "what changes between neighbours)", PlainSentencesTest::lowAndHighAreGrounds);
        DOC.test(20, GROUNDS, "LOW, HIGH of a CELL in a GROUND: the least, the greatest BASE there that can be",
            PlainSentencesTest::nothingLowerOrHigher);
        DOC.test(16, GROUNDS, "For each set of BREAKS its GROUND is that of the least COST", PlainSentencesTest::cheapestOfAll);
        DOC.test(18, GROUNDS, "THE BEST: the GROUND of the least COST", PlainSentencesTest::bestOfAll);
    }

    private static void linesAndWater() {
        DOC.test(22, GROUNDS, "LINE between neighbours: A, B being what MAY LIE at depth 0 of each by one GROUND",
            PlainSentencesTest::linesByOneGround);
        DOC.test(24, GROUNDS, "from the least of that to the greatest height - LOW - UNDER LOW", PlainSentencesTest::waterByAllKept);
    }

    private static void plansAndHands() {
        DOC.test(31, SHEETS, "the sum S of its ROCK's number less the other's", PlainSentencesTest::sumOfNumbers);
        DOC.test(35, SHEETS, "A bore at a PLACE that finds the BASE to be v leaves of a QUESTION: the least of HIGH and v + the way from "
            + "the PLACE to it, less the greatest of LOW and v - the way from it to the PLACE", PlainSentencesTest::leftByABore);
        DOC.test(35, SHEETS, "LEFT of a PLACE: the greatest sum over QUESTIONS", PlainSentencesTest::sumOverQuestions);
    }

    private static int read(String text) {
        return Check.rules(new LandSurvey(), text);
    }

    private static void leftOutOrMore() {
        String[] fine = {"", "rank 1 when 1;", "rank 1 when 1 < 2;", "rank 1 when 1 = 2;", "rank 1 when 1 + 2 - 3 + 4;",
            "rank 1 when 1 and 2 or 3 and 4;", "rank 1 when 1 + 1 < 2 + 2 and 3 - 1 = 2 or 4;", "rank 1 when 1; rank 2 when 2;"};
        for (String text : fine) {
            CHECK.same(text, read(text), 0);
        }
        CHECK.same("many sums", read("rank 1 when 0" + " + 1 - 2".repeat(100) + ";"), 0);
        CHECK.same("many tests", read("rank 1 when 0" + " and 1 or 2 < 3".repeat(60) + ";"), 0);
        // a sum may be held against one other only
        CHECK.same("two less", read("rank 1 when 1 < 2 < 3;"), 1 + 16 * 18);
        CHECK.same("two equal", read("rank 1 when 1 = 2 = 3;"), 1 + 16 * 18);
        CHECK.same("no test", read("rank 1 when;"), 1 + 16 * 11);
        CHECK.same("no test behind and", read("rank 1 when 1 and;"), 1 + 16 * 17);
        CHECK.same("no fact behind +", read("rank 1 when 1 +;"), 1 + 16 * 15);
    }

    private static void rulesOfTheView() {
        LandSurvey x = new LandSurvey();
        x.sight(2, 0, 0, 0, 0, 0);
        CHECK.same("without rules no rock", x.look(0, 0), -1);
        CHECK.same("without rules no rock", x.count(4), 0);
        x.days(1);
        Check.rules(x, "rock a 0 to 0; rock b 0 to 0; name b when 1; rank 5 when 1;");
        x.days(1);
        Check.rules(x, "rock a 0 to 0; name a when 1;");
        int[] rocks = {0, 2, 1};
        int[] rock = {-1, 1, 0};
        int[] worth = {10, 5, 10};
        for (int day = 0; day <= 2; day++) {
            CHECK.yes("view", x.view(day));
            CHECK.same("rocks on day " + day, x.count(4), rocks[day]);
            CHECK.same("rock on day " + day, x.look(0, 0), rock[day]);
            CHECK.same("worth on day " + day, x.look(0, 1), worth[day]);
            CHECK.same("says something on day " + day, x.look(0, 2), rock[day] < 0 ? 0 : 1);
        }
    }

    private static void withoutAName() {
        LandSurvey x = Check.with("rock a 0 to 0; rock b 0 to 0; name b when colour = 2; rank 3 when 1; draw full when 1;");
        x.sight(2, 0, 0, 0, 0, 2000);
        x.sight(2, 0, 0, 0, 0, 1000);
        CHECK.same("named", x.look(0, 0), 1);
        CHECK.same("none", x.look(1, 0), -1);
        CHECK.same("says nothing", x.look(1, 2), 0);
    }

    /** All heights of the foot and the top of a rock, with its neighbours as thick as they like, are gone through. */
    private static boolean canLie(int rock, boolean turned, int base, int z) {
        int[] order = turned ? new int[] {0, 1, 2} : new int[] {2, 1, 0};
        List<Integer> feet = new ArrayList<>(List.of(base));
        for (int lying : order) {
            List<Integer> tops = new ArrayList<>();
            for (int foot : feet) {
                for (int thick = SPANS[lying][0]; thick <= SPANS[lying][1]; thick++) {
                    if (lying == rock && foot <= z && z <= foot + thick) {
                        return true;
                    }
                    tops.add(foot + thick);
                }
            }
            feet = tops;
        }
        return false;
    }

    private static int dueBits(int low, int high, boolean turned, int z) {
        int bits = 0;
        for (int base = low; base <= high; base++) {
            for (int rock = 0; rock < SPANS.length; rock++) {
                bits |= canLie(rock, turned, base, z) ? 1 << rock : 0;
            }
            int thinnest = SPANS[0][0] + SPANS[1][0] + SPANS[2][0];
            bits |= base > z ? 1 << 10 : 0;
            bits |= z > base + thinnest ? 1 << 11 : 0;
        }
        return bits;
    }

    private static void everyPile(boolean turned) {
        LandSurvey x = Check.with(PILE);
        for (int column = 0; column < 12; column++) {
            x.fold(column, 4, turned);
        }
        x.sight(2, 4, 4, 20, 0, 1000);
        for (int column = 4; column < 8; column++) {
            for (int depth = 0; depth <= 45; depth++) {
                int due = dueBits(x.base(0, column, 4, 0), x.base(0, column, 4, 1), turned, 500 - depth);
                CHECK.same("column " + column + ", depth " + depth, x.lies(column, 4, depth), due);
            }
        }
    }

    private static void heightLessDepth() {
        LandSurvey x = Check.with(PILE);
        x.sight(2, 4, 4, 20, 0, 1000);
        int[] heights = {0, 1, 450, 478, 480, 485, 500, 999};
        for (int height : heights) {
            x.cell(9, 2, height, true);
            for (int depth : new int[] {0, 1, 3, 10, 499, 2000}) {
                int due = dueBits(x.base(0, 9, 2, 0), x.base(0, 9, 2, 1), false, height - depth);
                CHECK.same("height " + height + ", depth " + depth, x.lies(9, 2, depth), due);
            }
        }
    }

    private static void everyBaseOfASight() {
        LandSurvey x = Check.with(PILE);
        x.cell(7, 1, 333, true);
        for (int rock = 0; rock < 3; rock++) {
            CHECK.same("sight", x.sight(3, 7, 1, 40, 0, 1000 * rock), rock);
        }
        for (int turn = 0; turn < 2; turn++) {
            x.fold(7, 1, turn == 1);
            for (int rock = 0; rock < 3; rock++) {
                int least = 1000;
                int most = -1000;
                for (int base = 200; base <= 400; base++) {
                    if (canLie(rock, turn == 1, base, 293)) {
                        least = Math.min(least, base);
                        most = Math.max(most, base);
                    }
                }
                CHECK.same("at least, rock " + rock, x.look(rock, 5), least);
                CHECK.same("at most, rock " + rock, x.look(rock, 6), most);
            }
        }
    }

    /** A land with bores and dips that clash, and breaks; the bores whose bits are set in left are not told. */
    private static LandSurvey land(int left) {
        LandSurvey x = Check.with("rock a 0 to 10; name a when 1; steep 4; rank 6 when hand = 1; rank 11 when hand = 2;");
        for (int k = 0; k < BORES.length; k++) {
            if ((left >> k & 1) == 0) {
                int told = x.sight(2, BORES[k][0], BORES[k][1], BORES[k][2], BORES[k][3], 0);
                if (DIPS[k].length > 0) {
                    x.dip(told, DIPS[k][0], DIPS[k][1], DIPS[k][2]);
                }
            }
        }
        x.fault(2, 0, true, 8, -60, -40, BREAK_COSTS[0]);
        x.fault(0, 2, false, 12, -40, 40, BREAK_COSTS[1]);
        x.fault(10, 3, true, 2, 1, 9, BREAK_COSTS[2]);
        return x;
    }

    private static int cellOf(int bore) {
        return 12 * BORES[bore][1] + BORES[bore][0];
    }

    /** From and to of what the base changes by from a cell to that on its right, or below it, in a ground. */
    private static int[] change(int set, long doubted, int cell, boolean down) {
        int column = cell % 12;
        int line = cell / 12;
        boolean[] broken = {!down && column == 2, down && line == 2, !down && column == 10 && (line == 3 || line == 4)};
        int[][] thrown = {{-60, -40}, {-40, 40}, {1, 9}};
        for (int k = 0; k < broken.length; k++) {
            if ((set >> k & 1) != 0 && broken[k]) {
                return thrown[k];
            }
        }
        int[] span = null;
        for (int k = 0; k < BORES.length; k++) {
            if (DIPS[k].length > 0 && (doubted >> k & 1) == 0) {
                boolean forth = cellOf(k) == cell && DIPS[k][0] == (down ? 3 : 1);
                boolean back = cellOf(k) == (down ? cell + 12 : cell + 1) && DIPS[k][0] == (down ? 2 : 0);
                if (forth || back) {
                    int rise = forth ? DIPS[k][1] : -DIPS[k][1];
                    int from = rise - DIPS[k][2];
                    int to = rise + DIPS[k][2];
                    span = span == null ? new int[] {from, to} : new int[] {Math.max(span[0], from), Math.min(span[1], to)};
                }
            }
        }
        return span == null ? new int[] {-4, 4} : span;
    }

    private static long doubts(LandSurvey x, int set) {
        long mask = 0;
        for (int i = 0; x.doubted(set, i) >= 0; i++) {
            mask |= 1L << x.doubted(set, i);
        }
        return mask;
    }

    private static int[] all(LandSurvey x, int set, int what) {
        int[] bases = new int[96];
        for (int cell = 0; cell < 96; cell++) {
            bases[cell] = x.base(set, cell % 12, cell / 12, what);
        }
        return bases;
    }

    private static void lowAndHighAreGrounds() {
        LandSurvey x = land(0);
        for (int set = 0; set < SETS; set++) {
            long doubted = doubts(x, set);
            for (int what = 0; what < 2; what++) {
                int[] bases = all(x, set, what);
                for (int k = 0; k < BORES.length; k++) {
                    int there = bases[cellOf(k)];
                    boolean holds = x.look(k, 5) <= there && there <= x.look(k, 6);
                    CHECK.yes("that sight " + k + " holds or is doubted, set " + set, holds || (doubted >> k & 1) != 0);
                }
                for (int cell = 0; cell < 96; cell++) {
                    sidesHold(bases, cell, set, doubted);
                }
            }
        }
    }

    private static void sidesHold(int[] bases, int cell, int set, long doubted) {
        if (cell % 12 < 11) {
            int[] span = change(set, doubted, cell, false);
            int rise = bases[cell + 1] - bases[cell];
            CHECK.yes("to the right of " + cell + ", set " + set, span[0] <= rise && rise <= span[1]);
        }
        if (cell < 84) {
            int[] span = change(set, doubted, cell, true);
            int rise = bases[cell + 12] - bases[cell];
            CHECK.yes("below " + cell + ", set " + set, span[0] <= rise && rise <= span[1]);
        }
    }

    /** Each bound must rest on what a sight says, by neighbours that leave no room between them. */
    private static void nothingLowerOrHigher() {
        LandSurvey x = land(0);
        for (int set = 0; set < SETS; set++) {
            long doubted = doubts(x, set);
            for (int what = 0; what < 2; what++) {
                int[] bases = all(x, set, what);
                boolean[] rests = new boolean[96];
                for (int k = 0; k < BORES.length; k++) {
                    rests[cellOf(k)] |= (doubted >> k & 1) == 0 && bases[cellOf(k)] == x.look(k, 5 + what);
                }
                for (int n = 0; n < 96 * 96; n++) {
                    carry(bases, rests, n % 96, change(set, doubted, n % 96, false), change(set, doubted, n % 96, true), what);
                }
                for (int cell = 0; cell < 96; cell++) {
                    CHECK.yes("that " + cell + " rests on a sight, set " + set + ", what " + what, rests[cell]);
                }
            }
        }
    }

    private static void carry(int[] bases, boolean[] rests, int cell, int[] right, int[] below, int what) {
        if (cell % 12 < 11) {
            rests[cell + 1] |= rests[cell] && bases[cell + 1] == bases[cell] + right[what];
            rests[cell] |= rests[cell + 1] && bases[cell] == bases[cell + 1] - right[1 - what];
        }
        if (cell < 84) {
            rests[cell + 12] |= rests[cell] && bases[cell + 12] == bases[cell] + below[what];
            rests[cell] |= rests[cell + 12] && bases[cell] == bases[cell + 12] - below[1 - what];
        }
    }

    private static int sum(int[] each, int set) {
        int sum = 0;
        for (int k = 0; k < each.length; k++) {
            sum += (set >> k & 1) != 0 ? each[k] : 0;
        }
        return sum;
    }

    /** To doubt a sight is as if it had not been told: so each set of three at most is tried on a land of its own. */
    private static void cheapestOfAll() {
        int[] least = new int[SETS];
        int[] which = new int[SETS];
        for (int mask = 0; mask < 1 << BORES.length; mask++) {
            LandSurvey without = land(mask);
            for (int set = 0; set < SETS && Integer.bitCount(mask) <= 3; set++) {
                int cost = sum(BREAK_COSTS, set) + sum(WORTHS, mask);
                boolean fits = without.cost(set) == sum(BREAK_COSTS, set);
                if (fits && (least[set] == 0 || cost < least[set])) {
                    least[set] = cost;
                    which[set] = mask;
                }
            }
        }
        LandSurvey x = land(0);
        for (int set = 0; set < SETS; set++) {
            CHECK.same("cost of " + set, x.cost(set), least[set]);
            CHECK.same("doubted in " + set, doubts(x, set), which[set]);
        }
    }

    private static void bestOfAll() {
        LandSurvey x = land(0);
        int best = 0;
        for (int set = 1; set < SETS; set++) {
            best = x.cost(set) < x.cost(best) ? set : best;
        }
        CHECK.same("set", x.best(0), best);
        CHECK.same("cost", x.best(1), x.cost(best));
        CHECK.same("doubted", x.best(2), Long.bitCount(doubts(x, best)));
        for (int k = 0; k < BORES.length; k++) {
            CHECK.same("sight " + k, x.look(k, 4), doubts(x, best) >> k & 1);
        }
    }

    private static void linesByOneGround() {
        LandSurvey x = Check.with("rock a 50 to 50; rock b 50 to 50; name b when 1; steep 0;");
        x.sight(2, 0, 0, 0, 0, 0);
        x.sight(2, 1, 0, 50, 0, 0);
        x.fault(3, 0, true, 8, 40, 40, 1);
        x.rivalry(1);
        x.cell(4, 4, 520, true);
        x.cell(5, 4, 520, true);
        // the base is 450 or, with the break, 490: a at both cells, or b at both
        CHECK.same("either", x.lies(4, 4, 0), 3);
        CHECK.same("either", x.lies(5, 4, 0), 3);
        CHECK.same("but the same in each ground", x.line(4, 4, 1), 0);
        x.cell(5, 4, 480, true);
        // b there, or below all
        CHECK.same("either", x.lies(5, 4, 0), 2 + 1024);
        CHECK.same("something else in each ground", x.line(4, 4, 1), 3);
    }

    private static void waterByAllKept() {
        LandSurvey x = Check.with("rock a 10 to 20; rock b 30 to 40; name b when 1; steep 0; holds a; tight b;");
        x.sight(2, 0, 0, 100, 0, 0);
        x.fault(3, 0, true, 8, 30, 30, 1);
        CHECK.same("one ground, from", x.water(5, 5, 0), 500 - 400 - 40);
        CHECK.same("one ground, to", x.water(5, 5, 1), 500 - 360 - 30);
        x.rivalry(1);
        CHECK.same("both, from", x.water(5, 5, 0), 500 - 430 - 40);
        CHECK.same("both, to", x.water(5, 5, 1), 500 - 360 - 30);
        CHECK.same("this side, from", x.water(3, 5, 0), 500 - 400 - 40);
    }

    private static LandSurvey pairs(int... rocks) {
        LandSurvey x = Check.with("rock a 0 to 50; rock b 0 to 50; rock c 0 to 50; name a when colour = 0; name b when colour = 1;"
            + "name c when colour = 2;");
        for (int k = 0; k < rocks.length; k += 2) {
            x.sight(2, k, 0, 10, 0, 1000 * rocks[k]);
            x.sight(2, k, 0, 10, 1 + k / 2 % 2, 1000 * rocks[k + 1]);
        }
        return x;
    }

    private static void sumOfNumbers() {
        CHECK.same("2 in 3", pairs(2, 0, 1, 1, 0, 0).habit(0), 1);
        CHECK.same("2 - 1 in 3", pairs(2, 0, 1, 1, 0, 1).habit(0), 0);
        CHECK.same("-2 in 3", pairs(0, 2, 1, 1, 0, 0).habit(0), -1);
        CHECK.same("1 in 3", pairs(1, 0, 1, 1, 0, 0).habit(0), 0);
        CHECK.same("2 - 2 in 3", pairs(2, 0, 0, 2, 0, 0).habit(0), 0);
        CHECK.same("of the other hand", pairs(2, 0, 1, 1, 2, 0).habit(1), 0);
    }

    private static void leftByABore() {
        LandSurvey x = Check.with("rock a 0 to 0; rock b 0 to 40; name a when colour = 0; name b when 1; steep 50;");
        x.sight(2, 4, 4, 0, 0, 1000);
        x.dip(0, 1, 10, 3);
        x.question(5, 4, true);
        x.place(4, 4, 1);
        x.place(5, 4, 1);
        x.place(3, 4, 1);
        // 460 to 500 there, 467 to 513 here; from 7 to 13 higher here than there
        CHECK.same("doubt", x.doubt(), 46);
        CHECK.same("from there", x.left(0), 6);
        CHECK.same("from here", x.left(1), 0);
        // 410 to 550 at the third; what it finds in the middle, 480, leaves all that was open here
        CHECK.same("from beyond", x.left(2), 46);
        x.question(4, 4, true);
        x.question(5, 4, false);
        CHECK.same("doubt", x.doubt(), 40);
        CHECK.same("the other way", x.left(1), 6);
    }

    private static void sumOverQuestions() {
        LandSurvey x = Check.with("rock a 0 to 100; name a when 1; steep 10;");
        x.sight(2, 0, 0, 0, 0, 0);
        x.question(1, 0, true);
        x.question(0, 1, true);
        x.question(0, 0, true);
        x.place(0, 0, 1);
        CHECK.same("at the sight", x.left(0), 20 + 20);
        x.place(3, 0, 1);
        // 370 to 530 there; 400 to 500, 390 to 510 and 390 to 510 here; found 450 there leaves 60, 40 and 80
        CHECK.same("three off", x.left(1), 60 + 40 + 80);
    }
}
