/** The edges that section 4 of the document names: sheets, hands, questions, places. */
public final class SheetsEdgesTest {
    private static final Check CHECK = new Check();
    private static final Sentences DOC = new Sentences("edges of the sheets", CHECK);
    private static final String SHEETS = "4 SHEETS";

    private SheetsEdgesTest() {
    }

    public static void main(String[] args) {
        sheets();
        hands();
        questions();
        DOC.end();
    }

    private static void sheets() {
        DOC.test(26, SHEETS, "SHEETS, 10 at most, are drawn", SheetsEdgesTest::tenSheets);
        DOC.test(27, SHEETS, "of the CELLS from a column and line to another column and line", SheetsEdgesTest::cellsOfASheet);
        DOC.test(26, SHEETS, "what MAY LIE at depth 0, by THE VIEW as it is", SheetsEdgesTest::drawnByTheView);
        DOC.test(28, SHEETS, "how many CELLS of both have nothing in common in them", SheetsEdgesTest::quarrels);
        DOC.test(28, SHEETS, "how many CELLS of both have nothing in common in them", SheetsEdgesTest::quarrelsOfSheetsThatHardlyMeet);
        DOC.test(29, SHEETS, "how many of its CELLS would be drawn otherwise now", SheetsEdgesTest::staleCells);
    }

    private static void hands() {
        DOC.test(30, SHEETS, "pairs of SIGHTS that say something, one of each HAND, of one CELL and depth", SheetsEdgesTest::doubles);
        DOC.test(30, SHEETS, "pairs of SIGHTS that say something, one of each HAND, of one CELL and depth", SheetsEdgesTest::mostDoubles);
        DOC.test(30, SHEETS, "ALIKE: those with the same ROCK", SheetsEdgesTest::alike);
        DOC.test(31, SHEETS, "n is 3 at least", SheetsEdgesTest::threeAtLeast);
        DOC.test(31, SHEETS, "if 2 times S either way is above n", SheetsEdgesTest::twiceTheSum);
        DOC.test(31, SHEETS, "1 (names older) if S is above 0, -1 if below", SheetsEdgesTest::olderOrYounger);
        DOC.test(31, SHEETS, "over all its DOUBLES with other HANDS, n in all", SheetsEdgesTest::withOtherHands);
    }

    private static void questions() {
        DOC.test(32, SHEETS, "QUESTIONS: a set of CELLS, 8 at most", SheetsEdgesTest::eightQuestions);
        DOC.test(32, SHEETS, "QUESTIONS: a set of CELLS, 8 at most", SheetsEdgesTest::questionsAreASet);
        DOC.test(33, SHEETS, "PLACES: CELLS, 8 at most, each with a cost (1 to 99)", SheetsEdgesTest::eightPlaces);
        DOC.test(33, SHEETS, "PLACES: CELLS, 8 at most, each with a cost (1 to 99)", SheetsEdgesTest::placeCosts);
        DOC.test(34, SHEETS, "the sum over QUESTIONS of HIGH - LOW in THE BEST", SheetsEdgesTest::doubtOfTheBest);
        DOC.test(35, SHEETS, "how much higher the BASE can be there than here by what THE BEST says of neighbours", SheetsEdgesTest::ways);
        DOC.test(36, SHEETS, "how much higher the BASE can be there than here by what THE BEST says of neighbours", SheetsEdgesTest::waysOfTheBest);
        DOC.test(35, SHEETS, "for v of LOW, HIGH, and (LOW + HIGH) / 2, cut downwards, of the PLACE", SheetsEdgesTest::cutDownwards);
        DOC.test(35, SHEETS, "for v of LOW, HIGH, and (LOW + HIGH) / 2, cut downwards, of the PLACE", SheetsEdgesTest::lowOrHigh);
        DOC.test(36, SHEETS, "the PLACE with the greatest (DOUBT - LEFT) / cost as a fraction", SheetsEdgesTest::fractions);
        DOC.test(36, SHEETS, "of equal ones the first", SheetsEdgesTest::firstOfEqualOnes);
        DOC.test(36, SHEETS, "none if nothing is above 0, or unknown", SheetsEdgesTest::nothingAboveZero);
        DOC.test(36, SHEETS, "none if nothing is above 0, or unknown", SheetsEdgesTest::unknownOnes);
    }

    /** Base 450 alone under two rocks of 50: 480 shows b alone, 520 a alone. */
    private static LandSurvey layers() {
        LandSurvey x = Check.with("rock a 50 to 50; rock b 50 to 50; name b when 1; steep 0;");
        x.sight(2, 5, 0, 0, 0, 0);
        x.sight(2, 6, 0, 50, 0, 0);
        return x;
    }

    /** All cells but the two of the sights, which tell of heights themselves. */
    private static void level(LandSurvey x, int height) {
        for (int cell = 0; cell < 96; cell++) {
            if (cell != 5 && cell != 6) {
                x.cell(cell % 12, cell / 12, height, true);
            }
        }
    }

    private static void tenSheets() {
        LandSurvey x = new LandSurvey();
        for (int k = 0; k < 10; k++) {
            CHECK.same("none such yet", x.drawn(k, 0, 0), -1);
            CHECK.same("sheet " + k, x.sheet(0, 0, k, 0), k);
            CHECK.same("counted", x.count(6), k + 1);
        }
        CHECK.same("one too many", x.sheet(0, 0, 0, 0), -1);
        CHECK.same("one too many, all the land", x.sheet(0, 0, 11, 7), -1);
        CHECK.same("ten", x.count(6), 10);
        CHECK.same("the last one", x.drawn(9, 9, 0), 3072);
        CHECK.same("the last one, as drawn", x.drawn(9, 10, 0), -1);
        CHECK.same("none behind it", x.drawn(10, 0, 0), -1);
        CHECK.same("none behind it", x.quarrel(9, 10), -1);
        CHECK.same("none behind it", x.stale(10), -1);
        CHECK.same("the last one", x.stale(9), 0);
        CHECK.same("the last one", x.quarrel(0, 9), 0);
    }

    private static void cellsOfASheet() {
        int[][] sheets = {{0, 0, 0, 0}, {11, 7, 11, 7}, {0, 0, 11, 7}, {3, 2, 5, 2}, {3, 2, 3, 6}, {11, 0, 11, 7}, {0, 7, 11, 7}, {2, 1, 4, 3}};
        for (int[] at : sheets) {
            LandSurvey x = new LandSurvey();
            CHECK.same("sheet", x.sheet(at[0], at[1], at[2], at[3]), 0);
            for (int column = 0; column < 12; column++) {
                for (int line = 0; line < 8; line++) {
                    boolean of = column >= at[0] && column <= at[2] && line >= at[1] && line <= at[3];
                    CHECK.same("cell " + column + ", " + line, x.drawn(0, column, line), of ? 3072 : -1);
                }
            }
        }
        LandSurvey x = new LandSurvey();
        CHECK.same("from one behind to, column", x.sheet(1, 0, 0, 0), -1);
        CHECK.same("from one behind to, line", x.sheet(0, 1, 0, 0), -1);
        CHECK.same("from behind to, column alone", x.sheet(11, 0, 0, 7), -1);
        CHECK.same("from behind to, line alone", x.sheet(0, 7, 11, 0), -1);
        CHECK.same("none drawn", x.count(6), 0);
    }

    private static void drawnByTheView() {
        LandSurvey x = layers();
        x.cell(3, 3, 480, true);
        x.days(1);
        x.withdraw(0);
        x.withdraw(1);
        x.sheet(3, 3, 3, 3);
        CHECK.same("nothing is known now", x.drawn(0, 3, 3), 3075);
        x.view(0);
        x.sheet(3, 3, 3, 3);
        CHECK.same("by the view", x.drawn(1, 3, 3), 2);
        x.cell(3, 3, 520, true);
        x.sheet(3, 3, 3, 3);
        CHECK.same("the land as it is", x.drawn(2, 3, 3), 1);
        CHECK.same("as drawn", x.drawn(1, 3, 3), 2);
        x.view(1);
        CHECK.same("as drawn, whatever the view", x.drawn(2, 3, 3), 1);
        CHECK.same("stale by the view", x.stale(2), 1);
        CHECK.same("fresh by the view", x.stale(0), 0);
    }

    private static void quarrels() {
        LandSurvey x = layers();
        level(x, 480);
        x.sheet(0, 0, 11, 7);
        CHECK.same("with itself", x.quarrel(0, 0), 0);
        level(x, 520);
        x.sheet(0, 0, 11, 7);
        CHECK.same("what it showed", x.drawn(0, 11, 7), 2);
        CHECK.same("what it shows", x.drawn(1, 11, 7), 1);
        CHECK.same("all but two", x.quarrel(0, 1), 94);
        CHECK.same("either way", x.quarrel(1, 0), 94);
        level(x, 500);
        x.sheet(0, 0, 11, 7);
        CHECK.same("something in common all over", x.quarrel(0, 2), 0);
    }

    private static void quarrelsOfSheetsThatHardlyMeet() {
        LandSurvey x = layers();
        x.cell(3, 3, 480, true);
        x.cell(4, 3, 480, true);
        x.sheet(0, 0, 3, 3);
        x.sheet(3, 3, 4, 3);
        x.cell(3, 3, 520, true);
        x.cell(4, 3, 520, true);
        x.sheet(3, 3, 11, 7);
        x.sheet(4, 3, 11, 7);
        x.sheet(4, 4, 4, 4);
        CHECK.same("one corner", x.quarrel(0, 2), 1);
        CHECK.same("side by side", x.quarrel(0, 3), 0);
        CHECK.same("nowhere near", x.quarrel(0, 4), 0);
        CHECK.same("two cells", x.quarrel(1, 2), 2);
        CHECK.same("one of two cells", x.quarrel(1, 3), 1);
        CHECK.same("the same", x.quarrel(2, 3), 0);
        CHECK.same("no such sheet", x.quarrel(0, 5), -1);
        CHECK.same("no such sheet", x.quarrel(5, 0), -1);
    }

    private static void staleCells() {
        LandSurvey x = layers();
        x.sheet(0, 0, 11, 7);
        x.sheet(2, 2, 2, 2);
        CHECK.same("fresh", x.stale(0), 0);
        x.cell(2, 2, 480, true);
        CHECK.same("one", x.stale(0), 1);
        CHECK.same("its only one", x.stale(1), 1);
        x.cell(2, 2, 500, true);
        CHECK.same("as it was again", x.stale(0), 0);
        x.cell(3, 2, 480, true);
        CHECK.same("one that is not of it", x.stale(1), 0);
        x.withdraw(0);
        x.withdraw(1);
        CHECK.same("all", x.stale(0), 96);
        CHECK.same("less in common, but not otherwise", layersOnceMore(), 0);
    }

    private static int layersOnceMore() {
        LandSurvey x = layers();
        x.cell(2, 2, 510, true);
        x.sheet(2, 2, 2, 2);
        x.cell(2, 2, 530, true);
        return x.stale(0);
    }

    private static LandSurvey named() {
        StringBuilder text = new StringBuilder();
        for (int r = 0; r < 10; r++) {
            text.append("rock ").append((char) ('a' + r)).append(" 0 to 99;");
        }
        for (int r = 0; r < 9; r++) {
            text.append("name ").append((char) ('a' + r)).append(" when colour = ").append(r).append(';');
        }
        return Check.with(text + "steep 99;");
    }

    private static void doubles() {
        LandSurvey x = named();
        x.sight(2, 0, 0, 0, 0, 0);
        CHECK.same("one alone", x.doubles(0, 1, 0), 0);
        x.sight(2, 0, 0, 0, 1, 0);
        CHECK.same("a pair", x.doubles(0, 1, 0), 1);
        x.sight(2, 0, 0, 1, 1, 0);
        CHECK.same("another depth", x.doubles(0, 1, 0), 1);
        x.sight(2, 1, 0, 0, 1, 0);
        CHECK.same("another cell", x.doubles(0, 1, 0), 1);
        x.sight(2, 0, 1, 0, 1, 0);
        CHECK.same("another line", x.doubles(0, 1, 0), 1);
        x.sight(2, 0, 0, 0, 1, 9000);
        CHECK.same("one that says nothing", x.doubles(0, 1, 0), 1);
        x.sight(2, 0, 0, 0, 2, 0);
        CHECK.same("another hand", x.doubles(0, 1, 0), 1);
        for (int kind = 0; kind <= 4; kind++) {
            x.sight(kind, 0, 0, 0, 1, 0);
            CHECK.same("of any kind", x.doubles(0, 1, 0), 2 + kind);
        }
        x.days(1);
        x.withdraw(1);
        CHECK.same("one withdrawn", x.doubles(0, 1, 0), 5);
        x.view(0);
        CHECK.same("by the view", x.doubles(1, 0, 0), 6);
    }

    private static void mostDoubles() {
        LandSurvey x = named();
        for (int k = 0; k < 40; k++) {
            x.sight(2, 0, 0, 0, k % 2 == 0 ? 0 : 5, k % 2 == 0 ? 8000 : 0);
        }
        CHECK.same("twenty by twenty", x.doubles(0, 5, 0), 400);
        CHECK.same("none alike", x.doubles(5, 0, 1), 0);
        CHECK.same("names older", x.habit(0), 1);
        CHECK.same("names younger", x.habit(5), -1);
    }

    private static void alike() {
        LandSurvey x = named();
        x.sight(2, 0, 0, 0, 0, 1000);
        x.sight(2, 0, 0, 0, 1, 1000);
        x.sight(2, 0, 0, 0, 1, 2000);
        x.sight(2, 0, 0, 0, 1, 1999);
        CHECK.same("three", x.doubles(0, 1, 0), 3);
        CHECK.same("two of three", x.doubles(0, 1, 1), 2);
        CHECK.same("either way", x.doubles(1, 0, 1), 2);
        CHECK.same("of no doubles", x.doubles(0, 2, 1), 0);
    }

    /** A hand that names rock 4 once, and others that name what is told. */
    private static LandSurvey against(int... others) {
        LandSurvey x = named();
        x.sight(2, 0, 0, 0, 0, 4000);
        for (int other : others) {
            x.sight(2, 0, 0, 0, 1, 1000 * other);
        }
        return x;
    }

    private static void threeAtLeast() {
        CHECK.same("none", against().habit(0), 0);
        CHECK.same("one", against(0).habit(0), 0);
        CHECK.same("two", against(0, 0).habit(0), 0);
        CHECK.same("three", against(0, 0, 0).habit(0), 1);
        CHECK.same("two the other way", against(8, 8).habit(0), 0);
        CHECK.same("three the other way", against(8, 8, 8).habit(0), -1);
    }

    private static void twiceTheSum() {
        CHECK.same("2 of 3", against(3, 4, 4).habit(0), 0);
        CHECK.same("4 of 3", against(3, 3, 4).habit(0), 1);
        CHECK.same("4 of 4", against(3, 3, 4, 4).habit(0), 0);
        CHECK.same("6 of 4", against(3, 3, 3, 4).habit(0), 1);
        CHECK.same("4 of 5", against(3, 3, 4, 4, 4).habit(0), 0);
        CHECK.same("6 of 5", against(3, 3, 3, 4, 4).habit(0), 1);
        CHECK.same("2 of 3 the other way", against(5, 4, 4).habit(0), 0);
        CHECK.same("4 of 3 the other way", against(5, 5, 4).habit(0), -1);
        CHECK.same("4 of 4 the other way", against(5, 5, 4, 4).habit(0), 0);
        CHECK.same("6 of 4 the other way", against(5, 5, 5, 4).habit(0), -1);
        CHECK.same("one of many", against(2, 4, 4).habit(0), 1);
        CHECK.same("they even out", against(0, 8, 4).habit(0), 0);
    }

    private static void olderOrYounger() {
        LandSurvey x = against(3, 3, 3);
        CHECK.same("it names older", x.habit(0), 1);
        CHECK.same("the other names younger", x.habit(1), -1);
        CHECK.same("alike all", against(4, 4, 4).habit(0), 0);
    }

    private static void withOtherHands() {
        LandSurvey x = named();
        for (int hand = 1; hand <= 5; hand++) {
            x.sight(2, 0, 0, 0, hand, 0);
        }
        x.sight(2, 0, 0, 0, 0, 1000);
        CHECK.same("five others", x.habit(0), 1);
        CHECK.same("each of them against five", x.habit(1), 0);
        LandSurvey own = named();
        for (int k = 0; k < 4; k++) {
            own.sight(2, 0, 0, 0, 3, 1000 * k);
        }
        CHECK.same("not with itself", own.habit(3), 0);
        own.sight(2, 0, 0, 0, 4, 0);
        CHECK.same("6 of 4", own.habit(3), 1);
        CHECK.same("-6 of 4", own.habit(4), -1);
    }

    private static void eightQuestions() {
        LandSurvey x = new LandSurvey();
        for (int k = 0; k < 8; k++) {
            CHECK.yes("question " + k, x.question(k, k, true));
        }
        CHECK.no("one too many", x.question(8, 0, true));
        CHECK.no("one too many at the edge", x.question(11, 7, true));
        CHECK.same("eight", x.count(11), 8);
        CHECK.yes("one that is none", x.question(8, 0, false));
        CHECK.same("eight", x.count(11), 8);
        CHECK.yes("one less", x.question(3, 3, false));
        CHECK.same("seven", x.count(11), 7);
        CHECK.yes("one in its place", x.question(11, 7, true));
        CHECK.no("one too many again", x.question(3, 3, true));
        CHECK.same("eight", x.count(11), 8);
    }

    private static void questionsAreASet() {
        LandSurvey x = Check.with("rock a 0 to 7; name a when 1; steep 0;");
        x.sight(2, 0, 0, 0, 0, 0);
        CHECK.yes("one", x.question(2, 2, true));
        CHECK.yes("the same", x.question(2, 2, true));
        CHECK.same("counted once", x.count(11), 1);
        CHECK.same("asked once", x.doubt(), 7);
        CHECK.yes("none", x.question(2, 2, false));
        CHECK.yes("none again", x.question(2, 2, false));
        CHECK.same("none", x.count(11), 0);
        CHECK.same("nothing asked", x.doubt(), 0);
    }

    private static void eightPlaces() {
        LandSurvey x = new LandSurvey();
        for (int k = 0; k < 8; k++) {
            CHECK.same("place " + k, x.place(11, 7, 1 + k), k);
            CHECK.same("counted", x.count(12), k + 1);
        }
        CHECK.same("one too many", x.place(0, 0, 1), -1);
        CHECK.same("one too many of the same", x.place(11, 7, 1), -1);
        CHECK.same("eight", x.count(12), 8);
        Check.rules(x, "rock a 0 to 7; name a when 1; steep 0;");
        x.sight(2, 0, 0, 0, 0, 0);
        x.question(2, 2, true);
        CHECK.same("the last one", x.left(7), 0);
        CHECK.same("none behind it", x.left(8), -1);
        CHECK.same("the cheapest", x.next(), 0);
    }

    private static void placeCosts() {
        int[] taken = {1, 2, 98, 99};
        for (int cost : taken) {
            CHECK.same("cost " + cost, new LandSurvey().place(0, 0, cost), 0);
        }
        int[] refused = {0, -1, 100, 101, Integer.MIN_VALUE, Integer.MAX_VALUE, 256, 65537};
        for (int cost : refused) {
            LandSurvey x = new LandSurvey();
            CHECK.same("cost " + cost, x.place(0, 0, cost), -1);
            CHECK.same("none behind it", x.count(12), 0);
        }
    }

    private static void doubtOfTheBest() {
        LandSurvey x = Check.with("rock a 0 to 30; name a when 1; steep 2;");
        x.sight(2, 0, 0, 0, 0, 0);
        CHECK.same("no question", x.doubt(), 0);
        x.question(0, 0, true);
        CHECK.same("where the sight is", x.doubt(), 30);
        x.question(11, 7, true);
        CHECK.same("18 sides off", x.doubt(), 30 + 30 + 72);
        x.fault(5, 0, true, 8, -300, 300, 5);
        x.rivalry(5);
        CHECK.same("in the best alone", x.doubt(), 132);
        LandSurvey most = Check.with("rock a 200 to 200; name a when 1; steep 99; drift 99;");
        most.sight(1, 0, 0, 0, 0, 0);
        for (int k = 0; k < 8; k++) {
            most.question(11, k, true);
        }
        int sum = 0;
        for (int k = 0; k < 8; k++) {
            sum += 200 + 198 + 2 * 99 * (11 + k);
        }
        CHECK.same("eight far off", most.doubt(), sum);
    }

    private static void ways() {
        LandSurvey x = Check.with("rock a 0 to 100; name a when 1; steep 0;");
        x.sight(2, 4, 4, 0, 0, 0);
        x.question(6, 4, true);
        x.place(4, 4, 1);
        CHECK.same("no way at all", x.left(0), 0);
        x.fault(4, 0, true, 8, -3, 10, 1);
        CHECK.same("a break that is not in use", x.left(0), 0);
        LandSurvey y = Check.with("rock a 0 to 100; name a when 1; steep 0; rank 99 when 1;");
        y.sight(2, 4, 4, 0, 0, 0);
        y.sight(2, 6, 4, 105, 0, 0);
        y.question(6, 4, true);
        y.place(4, 4, 1);
        y.fault(4, 0, true, 8, -110, -100, 1);
        // 400 to 500 at the place, 295 to 395 beyond the break: 450 leaves 340 to 350, either end 5
        CHECK.same("the break is in use", y.best(0), 1);
        CHECK.same("all beyond it", y.doubt(), 100);
        CHECK.same("by its throw", y.left(0), 10);
        y.question(6, 4, false);
        y.question(4, 4, true);
        y.place(6, 4, 1);
        CHECK.same("the other way", y.left(1), 10);
    }

    /** The one place is beyond a break of another ground, the other is dearer: whatever was asked of that ground. */
    private static void waysOfTheBest() {
        LandSurvey x = Check.with("rock a 0 to 100; name a when 1; steep 0;");
        x.sight(2, 4, 4, 0, 0, 0);
        x.question(4, 4, true);
        x.place(6, 4, 1);
        x.place(3, 4, 2);
        x.fault(4, 0, true, 8, -300, 300, 1);
        CHECK.same("next", x.next(), 0);
        CHECK.same("another ground", x.base(1, 6, 4, 1), 800);
        CHECK.same("next behind that", x.next(), 0);
        CHECK.same("another ground", x.base(1, 6, 4, 0), 100);
        CHECK.same("left behind that", x.left(0), 0);
        x.rivalry(9);
        CHECK.same("by both", x.lies(6, 4, 0), 3073);
        CHECK.same("next by the best alone", x.next(), 0);
    }

    /** A place with the base from low to high beside a question with -7 to 3, five either way between them. */
    private static LandSurvey beside(int height, int... depths) {
        LandSurvey x = Check.with("rock a 0 to 10; name a when 1; steep 5;");
        x.cell(4, 4, 3, true);
        x.sight(2, 4, 4, 0, 0, 0);
        x.cell(5, 4, height, true);
        for (int depth : depths) {
            x.sight(2, 5, 4, depth, 0, 0);
        }
        x.question(4, 4, true);
        x.place(5, 4, 1);
        CHECK.same("the question", x.doubt(), 10);
        return x;
    }

    private static void cutDownwards() {
        LandSurvey x = beside(6, 0, 7);
        CHECK.same("low", x.base(0, 5, 4, 0), -4);
        CHECK.same("high", x.base(0, 5, 4, 1), -1);
        // 8 at -4, 9 at -1, 9 at -3; 10 at -2, which is not asked
        CHECK.same("below 0", x.left(0), 9);
        LandSurvey y = Check.with("rock a 0 to 10; name a when 1; steep 5;");
        y.cell(4, 4, 8, true);
        y.sight(2, 4, 4, 0, 0, 0);
        y.cell(5, 4, 11, true);
        y.sight(2, 5, 4, 0, 0, 0);
        y.sight(2, 5, 4, 7, 0, 0);
        y.question(4, 4, true);
        y.place(5, 4, 1);
        CHECK.same("low", y.base(0, 5, 4, 0), 1);
        CHECK.same("high", y.base(0, 5, 4, 1), 4);
        CHECK.same("above 0", y.left(0), 9);
    }

    private static void lowOrHigh() {
        LandSurvey x = beside(8, 0);
        CHECK.same("low", x.base(0, 5, 4, 0), -2);
        CHECK.same("high", x.base(0, 5, 4, 1), 8);
        CHECK.same("the greatest at low", x.left(0), 10);
        LandSurvey y = beside(0, 2);
        CHECK.same("low", y.base(0, 5, 4, 0), -12);
        CHECK.same("high", y.base(0, 5, 4, 1), -2);
        CHECK.same("the greatest at high", y.left(0), 10);
        LandSurvey z = beside(3, 0);
        CHECK.same("the greatest in the middle", z.left(0), 10);
    }

    /** A question with 20 in doubt, and places so many sides off, each with its cost: 2 less gained a side. */
    private static LandSurvey places(int... told) {
        LandSurvey x = Check.with("rock a 0 to 20; name a when 1; steep 1;");
        x.sight(2, 0, 0, 0, 0, 0);
        x.question(0, 0, true);
        for (int k = 0; k < told.length; k += 2) {
            x.place(told[k], 0, told[k + 1]);
            CHECK.same("left at " + told[k], x.left(k / 2), Math.min(20, 2 * told[k]));
        }
        return x;
    }

    private static void fractions() {
        CHECK.same("10 for 3, 14 for 4", places(5, 3, 3, 4).next(), 1);
        CHECK.same("14 for 4, 10 for 3", places(3, 4, 5, 3).next(), 0);
        CHECK.same("20 for 99, 2 for 10", places(0, 99, 9, 10).next(), 0);
        CHECK.same("20 for 99, 2 for 9", places(0, 99, 9, 9).next(), 1);
        CHECK.same("20 for 99 alone", places(0, 99).next(), 0);
        CHECK.same("20 for 1 behind others", places(9, 1, 8, 1, 7, 1, 6, 1, 5, 1, 4, 1, 3, 1, 0, 1).next(), 7);
    }

    private static void firstOfEqualOnes() {
        CHECK.same("20 for 10, 10 for 5, 2 for 1", places(0, 10, 5, 5, 9, 1).next(), 0);
        CHECK.same("2 for 1, 10 for 5, 20 for 10", places(9, 1, 5, 5, 0, 10).next(), 0);
        CHECK.same("the first of those behind", places(9, 99, 5, 5, 0, 10).next(), 1);
        CHECK.same("the same place twice", places(3, 7, 3, 7).next(), 0);
    }

    private static void nothingAboveZero() {
        CHECK.same("no place", places().next(), -1);
        CHECK.same("nothing is gained ten sides off", places(10, 1).next(), -1);
        CHECK.same("nothing is gained eleven sides off", places(11, 1).next(), -1);
        CHECK.same("2 is above 0", places(9, 99).next(), 0);
        CHECK.same("the one that gains", places(10, 1, 9, 99).next(), 1);
        LandSurvey x = places(0, 1);
        x.question(0, 0, false);
        CHECK.same("nothing is asked", x.next(), -1);
    }

    private static void unknownOnes() {
        LandSurvey x = places(0, 1);
        x.withdraw(0);
        CHECK.same("no sight: doubt", x.doubt(), -1);
        CHECK.same("no sight: left", x.left(0), -1);
        CHECK.same("no sight: next", x.next(), -1);
        LandSurvey y = places(0, 1);
        for (int k = 1; k <= 4; k++) {
            y.sight(2, 0, 0, 100 * k, 0, 0);
        }
        CHECK.same("no best: doubt", y.doubt(), -1);
        CHECK.same("no best: left", y.left(0), -1);
        CHECK.same("no best: next", y.next(), -1);
    }
}
