/** Each promise of the document by hand: ordinary inputs, the edges that it names, wrong inputs. */
public final class PromisesTest {
    private static final Check CHECK = new Check();
    private static final Sentences DOC = new Sentences("promises", CHECK);
    private static final int FAR_OFF = Integer.MAX_VALUE;
    private static final int FAR_BELOW = Integer.MIN_VALUE;

    private PromisesTest() {
    }

    public static void main(String[] args) {
        land();
        told();
        grounds();
        beneath();
        sheetsAndHands();
        plans();
        DOC.end();
    }

    private static void land() {
        DOC.test(1, "No SIGHT, no RULES, no BREAK; NOW is 0", PromisesTest::newObject);
        DOC.test(2, "n DAYS pass (0 to 1000): NOW; NONE for another n, beyond 9999", PromisesTest::days);
        DOC.test(3, "THE VIEW: true; false: a DAY behind NOW, below 0", PromisesTest::view);
        DOC.test(4, "A CELL's height and whether it is bare: true; false: none such, another height", PromisesTest::cell);
        DOC.test(5, "A CELL is turned over (yes) or not: true; false: none such", PromisesTest::fold);
        DOC.test(6, "A CELL's OWNER (NONE: nobody): true; false: none such", PromisesTest::own);
    }

    private static void told() {
        DOC.test(7, "A SIGHT (facts: 1000 * colour + 100 * grain + 10 * hard + fizz): its number; NONE: other numbers, the "
            + "CELL is covered (kind 0), 40 are there", PromisesTest::sight);
        DOC.test(7, "A SIGHT (facts: 1000 * colour + 100 * grain + 10 * hard + fizz): its number; NONE: other numbers, the "
            + "CELL is covered (kind 0), 40 are there", PromisesTest::sightLimit);
        DOC.test(8, "A DIP: true; false: no such SIGHT, other numbers, it has one", PromisesTest::dip);
        DOC.test(8, "A DIP: true; false: no such SIGHT, other numbers, it has one", PromisesTest::dipsOfOneSide);
        DOC.test(8, "A DIP: true; false: no such SIGHT, other numbers, it has one", PromisesTest::dipsAtTheEdges);
        DOC.test(8, "A DIP: true; false: no such SIGHT, other numbers, it has one", PromisesTest::dipsThatHardlyClash);
        DOC.test(9, "A REMAIN: true; false: no such SIGHT, other number, it has one", PromisesTest::remain);
        DOC.test(10, "WITHDRAWN: true; false: none such, it is", PromisesTest::withdraw);
        DOC.test(11, "Up to 24 signs come behind the TAPE: the bytes of a, b, c, of each the highest first; others than 10 and "
            + "32 .. 126, and what is beyond 1,500, are left out: how many there are", PromisesTest::feed);
        DOC.test(12, "The TAPE is read as RULES: 0; its FAULT; -1: those of 8 DAYS are there", PromisesTest::rulesByDays);
        DOC.test(13, "A BREAK more (down: yes, across: no): its number; NONE: other numbers, SIDES off THE LAND, 4 are there",
            PromisesTest::breaks);
        DOC.test(13, "A BREAK more (down: yes, across: no): its number; NONE: other numbers, SIDES off THE LAND, 4 are there",
            PromisesTest::breaksOverDips);
        DOC.test(14, "RIVALRY: true; false: another one", PromisesTest::rivalry);
    }

    private static void grounds() {
        DOC.test(15, "Of a SIGHT, what 0: its ROCK by THE RULES, in THE VIEW or not (NONE), 1: WORTH, 2: 1 if it says "
            + "something by THE VIEW, else 0, 3: 1 if AGES QUARREL in it, else 0, 4: 1 if it is doubted in THE BEST, "
            + "else 0, 5, 6: what it says of the BASE, at least, at most, 7: which line of THE RULES named it (the how "
            + "manieth name, rank or draw line, from 0). NoSuchElementException: none such; 5, 6, 7 of one that says "
            + "nothing", PromisesTest::look);
        DOC.test(16, "Of a set of BREAKS (bits): the COST of its GROUND; NONE: no such set, none", PromisesTest::cost);
        DOC.test(17, "The i-th SIGHT doubted in the GROUND of a set of BREAKS; NONE: none such", PromisesTest::doubted);
        DOC.test(18, "THE BEST, what 0: its set of BREAKS, 1: COST, 2: how many SIGHTS are doubted, 3: how many GROUNDS are "
            + "KEPT; NONE: there is none (3: 0), another what", PromisesTest::best);
        DOC.test(19, "Whether the GROUND of a set of BREAKS is KEPT: 1 or 0; NONE: no such set", PromisesTest::kept);
        DOC.test(20, "LOW (0), HIGH (1) of a CELL in the GROUND of a set of BREAKS. NoSuchElementException: none such, no "
            + "GROUND, unknown", PromisesTest::base);
        DOC.test(20, "LOW (0), HIGH (1) of a CELL in the GROUND of a set of BREAKS. NoSuchElementException: none such, no "
            + "GROUND, unknown", PromisesTest::unknownGround);
    }

    private static void beneath() {
        DOC.test(21, "What MAY LIE at a depth (0 to 2000) under a CELL by all KEPT, as bits; NONE: no such CELL, depth, "
            + "nothing is KEPT", PromisesTest::lies);
        DOC.test(22, "LINE between a CELL and a neighbour (0 left .. 3 below); NONE: none such, nothing is KEPT",
            PromisesTest::line);
        DOC.test(22, "LINE between a CELL and a neighbour (0 left .. 3 below); NONE: none such, nothing is KEPT",
            PromisesTest::lineByDrawRules);
        DOC.test(23, "DEEP of a rock under a CELL, what 0: from, 1: to. NoSuchElementException: none such, nothing is KEPT, "
            + "unknown in one of them", PromisesTest::deep);
        DOC.test(24, "WATER under a CELL, what 0: from, 1: to; NONE: none such, none, nothing is KEPT, unknown in one of them",
            PromisesTest::water);
        DOC.test(25, "SEAM of a rock under an OWNER, what 0: from, 1: to; NONE: none such, nothing is KEPT, unknown in one of "
            + "them", PromisesTest::seam);
    }

    private static void sheetsAndHands() {
        DOC.test(26, "A SHEET is drawn: its number; NONE: CELLS off THE LAND, from behind to, nothing is KEPT, 10 are there",
            PromisesTest::sheet);
        DOC.test(27, "What a SHEET has for a CELL; NONE: none such, it is not of it", PromisesTest::drawn);
        DOC.test(28, "QUARREL; NONE: no such SHEETS", PromisesTest::quarrel);
        DOC.test(29, "STALE; NONE: no such SHEET, nothing is KEPT", PromisesTest::stale);
        DOC.test(30, "Of two HANDS, what 0: DOUBLES, 1: ALIKE; NONE: none such, the same", PromisesTest::doubles);
        DOC.test(31, "HABIT. NoSuchElementException: no such HAND", PromisesTest::habit);
    }

    private static void plans() {
        DOC.test(32, "A CELL is a QUESTION (yes) or none: true; false: none such, 8 are", PromisesTest::question);
        DOC.test(33, "A PLACE more: its number; NONE: no such CELL, cost, 8 are there", PromisesTest::place);
        DOC.test(34, "DOUBT; NONE: there is no BEST, unknown", PromisesTest::doubt);
        DOC.test(35, "LEFT of a PLACE; NONE: none such, there is no BEST, unknown", PromisesTest::left);
        DOC.test(36, "NEXT; NONE: none", PromisesTest::next);
        DOC.test(36, "NEXT; NONE: none", PromisesTest::nextOfEqualOnes);
        DOC.test(37, "What 0: NOW, 1: THE VIEW, 2: SIGHTS, 3: those that say something, 4: rocks of THE RULES, 5: BREAKS, 6: "
            + "SHEETS, 7: SIGHTS that say something in which AGES QUARREL, 8: DAYS with RULES, 9: signs on the TAPE, "
            + "10: CELLS of which one thing alone MAY LIE at depth 0 (0 if nothing is KEPT), 11: QUESTIONS, 12: PLACES. "
            + "NONE for another what", PromisesTest::count);
    }

    private static void newObject() {
        LandSurvey x = new LandSurvey();
        for (int what = 0; what <= 12; what++) {
            CHECK.same("1 count " + what, x.count(what), 0);
        }
        CHECK.same("1 best", x.best(0), 0);
        CHECK.same("1 kept", x.best(3), 1);
        CHECK.same("1 lies", x.lies(11, 7, 0), 3072);
        CHECK.none("1 look", () -> x.look(0, 0));
        CHECK.none("1 base", () -> x.base(0, 0, 0, 0));
        CHECK.same("1 none", LandSurvey.NONE, -1);
    }

    private static void days() {
        LandSurvey x = new LandSurvey();
        CHECK.same("2 days", x.days(0), 0);
        CHECK.same("2 days", x.days(1000), 1000);
        CHECK.same("2 days", x.days(1001), -1);
        CHECK.same("2 days", x.days(-1), -1);
        CHECK.same("2 days", x.days(FAR_OFF), -1);
        CHECK.same("2 days", x.days(FAR_BELOW), -1);
        for (int n = 2; n <= 9; n++) {
            CHECK.same("2 days", x.days(1000), 1000 * n);
        }
        CHECK.same("2 beyond", x.days(1000), -1);
        CHECK.same("2 still", x.count(0), 9000);
        CHECK.same("2 last", x.days(999), 9999);
        CHECK.same("2 beyond", x.days(1), -1);
        CHECK.same("2 none", x.days(0), 9999);
    }

    private static void view() {
        LandSurvey x = new LandSurvey();
        CHECK.no("3 below", x.view(-1));
        CHECK.no("3 behind", x.view(1));
        CHECK.no("3 behind", x.view(FAR_OFF));
        x.days(3);
        CHECK.yes("3 now", x.view(3));
        x.days(2);
        CHECK.same("3 goes with now", x.count(1), 5);
        CHECK.yes("3 another", x.view(3));
        x.days(2);
        CHECK.same("3 stays", x.count(1), 3);
        CHECK.yes("3 now again", x.view(7));
        x.days(1);
        CHECK.same("3 goes with now again", x.count(1), 8);
        CHECK.no("3 behind", x.view(9));
        CHECK.same("3 as it was", x.count(1), 8);

        LandSurvey y = Check.with("rock a 0 to 0; name a when 1;");
        y.days(2);
        y.sight(2, 0, 0, 0, 0, 0);
        y.days(2);
        y.withdraw(0);
        y.days(1);
        int[] due = {0, 0, 1, 1, 0, 0};
        for (int day = 0; day <= 5; day++) {
            y.view(day);
            CHECK.same("3 says on day " + day, y.look(0, 2), due[day]);
        }
        y.view(2);
        y.cell(0, 0, 700, true);
        CHECK.same("3 all else is as it is", y.look(0, 5), 700);
    }

    private static void cell() {
        LandSurvey x = Check.with("rock a 0 to 0; name a when 1;");
        CHECK.no("4 off", x.cell(12, 0, 5, true));
        CHECK.no("4 off", x.cell(0, 8, 5, true));
        CHECK.no("4 off", x.cell(-1, 0, 5, true));
        CHECK.no("4 off", x.cell(0, -1, 5, true));
        CHECK.no("4 height", x.cell(0, 0, 1000, false));
        CHECK.no("4 height", x.cell(0, 0, -1, false));
        CHECK.same("4 still bare", x.sight(0, 0, 0, 0, 0, 0), 0);
        CHECK.same("4 still 500", x.look(0, 5), 500);
        CHECK.yes("4 cell", x.cell(0, 0, 999, false));
        CHECK.same("4 height", x.look(0, 5), 999);
        CHECK.same("4 covered", x.sight(0, 0, 0, 0, 0, 0), -1);
        CHECK.yes("4 cell", x.cell(0, 0, 0, true));
        CHECK.same("4 height", x.look(0, 6), 0);
        CHECK.same("4 bare", x.sight(0, 0, 0, 0, 0, 0), 1);
        CHECK.yes("4 corner", x.cell(11, 7, 1, true));
    }

    private static void fold() {
        LandSurvey x = Check.with("rock a 1 to 2; rock b 10 to 20; rock c 100 to 200; name b when 1;");
        x.sight(2, 3, 4, 0, 0, 0);
        CHECK.same("5 least", x.look(0, 5), 500 - 200 - 20);
        CHECK.same("5 most", x.look(0, 6), 500 - 100);
        CHECK.yes("5 fold", x.fold(3, 4, true));
        CHECK.same("5 least", x.look(0, 5), 500 - 2 - 20);
        CHECK.same("5 most", x.look(0, 6), 500 - 1);
        CHECK.yes("5 other", x.fold(4, 4, false));
        CHECK.same("5 still", x.look(0, 6), 499);
        CHECK.yes("5 back", x.fold(3, 4, false));
        CHECK.same("5 most", x.look(0, 6), 400);
        CHECK.no("5 off", x.fold(12, 0, true));
        CHECK.no("5 off", x.fold(0, 8, true));
        CHECK.no("5 off", x.fold(-1, 0, true));
        CHECK.no("5 off", x.fold(0, -1, true));
    }

    private static void own() {
        LandSurvey x = Check.with("rock a 7 to 9; name a when 1; steep 0;");
        x.sight(2, 0, 0, 300, 0, 0);
        CHECK.same("6 nobody's", x.seam(0, 0, 1), 0);
        for (int owner = 0; owner <= 3; owner++) {
            CHECK.yes("6 own", x.own(0, 0, owner));
            CHECK.same("6 held", x.seam(0, owner, 1), 9);
        }
        CHECK.same("6 no more", x.seam(0, 0, 1), 0);
        CHECK.yes("6 nobody", x.own(0, 0, LandSurvey.NONE));
        CHECK.same("6 nobody's", x.seam(0, 3, 1), 0);
        CHECK.no("6 owner", x.own(0, 0, 4));
        CHECK.no("6 owner", x.own(0, 0, -2));
        CHECK.no("6 off", x.own(12, 0, 0));
        CHECK.no("6 off", x.own(0, -1, 0));
    }

    private static void sight() {
        LandSurvey x = Check.with("rock a 0 to 0; name a when 1;");
        CHECK.same("7 kind", x.sight(-1, 0, 0, 0, 0, 0), -1);
        CHECK.same("7 kind", x.sight(5, 0, 0, 0, 0, 0), -1);
        CHECK.same("7 off", x.sight(2, 12, 0, 0, 0, 0), -1);
        CHECK.same("7 off", x.sight(2, 0, 8, 0, 0, 0), -1);
        CHECK.same("7 off", x.sight(2, -1, 0, 0, 0, 0), -1);
        CHECK.same("7 depth", x.sight(0, 0, 0, 1, 0, 0), -1);
        CHECK.same("7 depth", x.sight(1, 0, 0, 1, 0, 0), -1);
        CHECK.same("7 depth", x.sight(2, 0, 0, -1, 0, 0), -1);
        CHECK.same("7 depth", x.sight(4, 0, 0, 1000, 0, 0), -1);
        CHECK.same("7 hand", x.sight(2, 0, 0, 0, 6, 0), -1);
        CHECK.same("7 hand", x.sight(2, 0, 0, 0, -1, 0), -1);
        CHECK.same("7 facts", x.sight(2, 0, 0, 0, 0, 10000), -1);
        CHECK.same("7 facts", x.sight(2, 0, 0, 0, 0, -1), -1);
        CHECK.same("7 none told", x.count(2), 0);
        for (int kind = 0; kind <= 4; kind++) {
            CHECK.same("7 kind " + kind, x.sight(kind, 11, 7, kind < 2 ? 0 : 999, 5, 9999), kind);
        }
        x.cell(5, 5, 500, false);
        CHECK.same("7 covered", x.sight(0, 5, 5, 0, 0, 0), -1);
        CHECK.same("7 loose on covered", x.sight(1, 5, 5, 0, 0, 0), 5);

        LandSurvey y = Check.with("rock a 0 to 0; rock b 0 to 0; name b when colour = 1 and grain = 2 and hard = 3 and fizz = 4; "
            + "name a when kind = 3 and hand = 4 and depth = 77 and height = 600;");
        y.cell(2, 2, 600, true);
        y.sight(4, 2, 2, 0, 0, 1234);
        y.sight(3, 2, 2, 77, 4, 4321);
        y.sight(3, 2, 2, 76, 4, 4321);
        CHECK.same("7 facts", y.look(0, 0), 1);
        CHECK.same("7 other facts", y.look(1, 0), 0);
        CHECK.same("7 neither", y.look(2, 0), -1);
    }

    private static void sightLimit() {
        LandSurvey x = new LandSurvey();
        for (int k = 0; k < 40; k++) {
            CHECK.same("7 sight " + k, x.sight(2, k % 12, 0, k, 0, 0), k);
        }
        CHECK.same("7 one too many", x.sight(2, 0, 0, 0, 0, 0), -1);
        x.withdraw(0);
        CHECK.same("7 withdrawn ones count", x.sight(2, 0, 0, 0, 0, 0), -1);
    }

    private static void dip() {
        LandSurvey x = Check.with("rock a 0 to 0; name a when 1; steep 5;");
        x.sight(2, 0, 0, 0, 0, 0);
        CHECK.no("8 none such", x.dip(1, 1, 0, 0));
        CHECK.no("8 none such", x.dip(-1, 1, 0, 0));
        CHECK.no("8 where", x.dip(0, 4, 0, 0));
        CHECK.no("8 where", x.dip(0, -1, 0, 0));
        CHECK.no("8 n", x.dip(0, 1, 100, 0));
        CHECK.no("8 n", x.dip(0, 1, -100, 0));
        CHECK.no("8 w", x.dip(0, 1, 0, 100));
        CHECK.no("8 w", x.dip(0, 1, 0, -1));
        CHECK.same("8 nothing said", x.base(0, 1, 0, 1), 505);
        CHECK.yes("8 dip", x.dip(0, 1, 12, 2));
        CHECK.same("8 low", x.base(0, 1, 0, 0), 510);
        CHECK.same("8 high", x.base(0, 1, 0, 1), 514);
        CHECK.no("8 has one", x.dip(0, 1, 12, 2));
        CHECK.same("8 other way still steep", x.base(0, 0, 1, 1), 505);

        LandSurvey y = Check.with("rock a 0 to 0; name a when 1; steep 5;");
        y.sight(2, 0, 0, 0, 0, 0);
        y.sight(2, 5, 5, 0, 0, 0);
        CHECK.yes("8 off the land", y.dip(0, 0, 99, 0));
        CHECK.same("8 says nothing there", y.best(1), 0);
        CHECK.yes("8 above", y.dip(1, 2, -7, 0));
        CHECK.same("8 above", y.base(0, 5, 4, 0), 493);
        CHECK.same("8 above", y.base(0, 5, 4, 1), 493);
    }

    private static void dipsOfOneSide() {
        LandSurvey x = Check.with("rock a 0 to 0; name a when colour < 5; steep 30; rank 4 when hand = 1;");
        x.sight(2, 4, 4, 0, 0, 0);
        x.sight(2, 5, 4, 0, 0, 9000);
        x.dip(0, 1, 10, 5);
        x.dip(1, 0, -20, 8);
        CHECK.same("8 one that says nothing says no dip", x.base(0, 5, 4, 1), 515);
        LandSurvey y = Check.with("rock a 0 to 100; name a when 1; steep 30;");
        y.sight(2, 4, 4, 0, 0, 0);
        y.sight(2, 5, 4, 0, 0, 0);
        y.cell(5, 4, 530, true);
        y.dip(0, 1, 10, 5);
        y.dip(1, 0, -20, 8);
        CHECK.same("8 as all say", y.base(0, 4, 4, 0), 430 - 15);
        CHECK.same("8 as all say", y.base(0, 5, 4, 1), 515);
        y.question(5, 4, true);
        y.place(4, 4, 1);
        CHECK.same("8 as all say", y.left(0), 3);
    }

    private static void dipsAtTheEdges() {
        int[][] near = {{1, 3, 0, 3}, {10, 3, 11, 3}, {3, 1, 3, 0}, {3, 6, 3, 7}};
        int[][] off = {{0, 3}, {11, 3}, {3, 0}, {3, 7}};
        for (int where = 0; where < 4; where++) {
            LandSurvey x = Check.with("rock a 0 to 0; name a when 1; steep 33;");
            x.sight(2, near[where][0], near[where][1], 0, 0, 0);
            CHECK.yes("8 the least n", x.dip(0, where, -99, 0));
            CHECK.same("8 to the edge " + where, x.base(0, near[where][2], near[where][3], 1), 401);
            LandSurvey y = Check.with("rock a 0 to 0; name a when 1; steep 1;");
            y.sight(2, off[where][0], off[where][1], 0, 0, 0);
            CHECK.yes("8 off the land", y.dip(0, where, 99, 0));
            CHECK.same("8 off the land says nothing", y.best(2), 0);
        }
        LandSurvey z = Check.with("rock a 0 to 0; name a when 1; steep 90;");
        z.sight(2, 5, 5, 0, 0, 0);
        CHECK.yes("8 the greatest n and w", z.dip(0, 0, 99, 99));
        CHECK.same("8 low", z.base(0, 4, 5, 0), 500);
        CHECK.same("8 high", z.base(0, 4, 5, 1), 698);
    }

    private static void dipsThatHardlyClash() {
        // so much may lie under the sights that only the dips themselves can tell that they clash
        StringBuilder rocks = new StringBuilder();
        for (int r = 0; r < 10; r++) {
            rocks.append("rock ").append((char) ('a' + r)).append(" 0 to 200;");
        }
        LandSurvey x = Check.with(rocks + "name a when 1; rank 3 when hand = 1;");
        x.sight(2, 4, 4, 0, 0, 0);
        x.sight(2, 5, 4, 0, 1, 0);
        x.dip(0, 1, 10, 0);
        x.dip(1, 0, -9, 0);
        CHECK.same("8 by one", x.best(1), 3);
        CHECK.same("8 by one", x.doubted(0, 0), 1);
        CHECK.same("8 low", x.base(0, 4, 4, 0), -1500);
        LandSurvey y = Check.with(rocks + "name a when 1; steep 4;");
        y.sight(2, 4, 4, 0, 0, 0);
        y.dip(0, 3, 13, 0);
        CHECK.same("8 round a square", y.best(2), 1);
        LandSurvey z = Check.with(rocks + "name a when 1; steep 4;");
        z.sight(2, 4, 4, 0, 0, 0);
        z.dip(0, 3, 12, 0);
        CHECK.same("8 just so round a square", z.best(2), 0);
    }

    private static void remain() {
        LandSurvey x = Check.with("rock a 0 to 0; rock b 0 to 0; rock c 0 to 0; name a when colour = 0; name b when colour = 1;"
            + "name c when colour = 2; remain 3 from b to b; remain 9 from a to b;");
        for (int k = 0; k < 6; k++) {
            x.sight(2, 0, 0, 0, 0, 1000 * k);
        }
        CHECK.no("9 none such", x.remain(6, 0, false));
        CHECK.no("9 none such", x.remain(-1, 0, false));
        CHECK.no("9 number", x.remain(0, 10, false));
        CHECK.no("9 number", x.remain(0, -1, false));
        CHECK.same("9 none yet", x.look(0, 3), 0);
        CHECK.yes("9 remain", x.remain(0, 3, false));
        CHECK.same("9 younger", x.look(0, 3), 1);
        CHECK.no("9 has one", x.remain(0, 3, true));
        x.remain(1, 3, false);
        CHECK.same("9 within", x.look(1, 3), 0);
        x.remain(2, 9, false);
        CHECK.same("9 older", x.look(2, 3), 1);
        x.remain(3, 3, false);
        CHECK.same("9 without a rock", x.look(3, 3), 0);
        LandSurvey y = Check.with("rock a 0 to 0; rock b 0 to 0; name a when 1; remain 0 from b to b;");
        y.sight(2, 0, 0, 0, 0, 0);
        y.sight(2, 0, 0, 0, 0, 0);
        y.remain(0, 0, true);
        y.remain(1, 1, false);
        CHECK.same("9 washed in", y.look(0, 3), 0);
        CHECK.same("9 not told by the rules", y.look(1, 3), 0);
    }

    private static void withdraw() {
        LandSurvey x = Check.with("rock a 0 to 0; name a when 1;");
        CHECK.no("10 none such", x.withdraw(0));
        x.sight(2, 0, 0, 0, 0, 0);
        CHECK.no("10 none such", x.withdraw(-1));
        CHECK.no("10 none such", x.withdraw(1));
        x.days(5);
        CHECK.yes("10 withdrawn", x.withdraw(0));
        CHECK.no("10 again", x.withdraw(0));
        CHECK.same("10 says nothing", x.look(0, 2), 0);
        CHECK.same("10 still has a rock", x.look(0, 0), 0);
        x.view(4);
        CHECK.same("10 ahead of it", x.look(0, 2), 1);
        CHECK.no("10 again", x.withdraw(0));
    }

    private static void feed() {
        LandSurvey x = new LandSurvey();
        CHECK.same("11 nothing", x.feed(0, 0, 0), 0);
        CHECK.same("11 others", x.feed(-1L, 0x7f80ff1f09000b0dL, 0), 0);
        CHECK.same("11 newline, blank, tilde", x.feed(0x0a207e0000000000L, 0, 0), 3);
        CHECK.same("11 count", x.count(9), 3);
        LandSurvey y = new LandSurvey();
        // 'rock a 0 to 0 ;' in an order of bytes that only the highest first can read
        CHECK.same("11 feed", y.feed(0x726f636b20612030L, 0x20746f2030003b00L, 0), 14);
        CHECK.same("11 read", y.rules(), 0);
        CHECK.same("11 read", y.count(4), 1);
        LandSurvey z = new LandSurvey();
        for (int n = 1; n <= 62; n++) {
            z.feed(0x2020202020202020L, 0x2020202020202020L, 0x2020202020202020L);
        }
        CHECK.same("11 nearly full", z.feed(0x2020202000000000L, 0, 0), 1492);
        CHECK.same("11 full", z.feed(0x2020202020202020L, 0x7272727272727272L, 0), 1500);
        CHECK.same("11 full", z.feed(0x20L, 0x20L, 0x20L), 1500);
        CHECK.same("11 what was beyond is left out", z.rules(), 0);
        CHECK.same("11 empty again", z.count(9), 0);
    }

    private static void rulesByDays() {
        LandSurvey x = new LandSurvey();
        for (int day = 0; day < 8; day++) {
            CHECK.same("12 rules", Check.rules(x, "steep " + day + ";"), 0);
            x.days(1);
        }
        CHECK.same("12 eight days", x.count(8), 8);
        CHECK.same("12 one too many", Check.rules(x, "steep 9;"), -1);
        CHECK.same("12 tape is empty", x.count(9), 0);
        CHECK.same("12 a fault all the same", Check.rules(x, "steep"), 1 + 16 * 5);
        CHECK.same("12 eight days", x.count(8), 8);

        LandSurvey y = new LandSurvey();
        for (int day = 0; day < 8; day++) {
            y.days(day == 0 ? 0 : 1);
            StringBuilder rocks = new StringBuilder();
            for (int r = 0; r <= day; r++) {
                rocks.append("rock ").append((char) ('a' + r)).append(" 0 to 0;");
            }
            Check.rules(y, rocks.toString());
        }
        CHECK.same("12 on the same day", Check.rules(y, "rock z 1 to 1;"), 0);
        CHECK.same("12 in place of them", y.count(4), 1);
        for (int day = 0; day < 7; day++) {
            y.view(day);
            CHECK.same("12 in force on day " + day, y.count(4), day + 1);
        }
        CHECK.same("12 those of a day", y.count(8), 8);
        LandSurvey z = new LandSurvey();
        z.days(3);
        Check.rules(z, "rock a 0 to 0;");
        z.days(3);
        CHECK.same("12 a fault changes nothing", Check.rules(z, "rock b 0 to 0; rock"), 1 + 16 * 19);
        CHECK.same("12 still in force", z.count(4), 1);
        CHECK.same("12 no text", z.rules(), 0);
        CHECK.same("12 no rock", z.count(4), 0);
        z.view(5);
        CHECK.same("12 ahead", z.count(4), 1);
        z.view(2);
        CHECK.same("12 without any", z.count(4), 0);
    }

    private static void breaks() {
        LandSurvey x = new LandSurvey();
        CHECK.same("13 off", x.fault(12, 0, true, 1, 0, 0, 5), -1);
        CHECK.same("13 off", x.fault(0, 8, false, 1, 0, 0, 5), -1);
        CHECK.same("13 off", x.fault(-1, 0, true, 1, 0, 0, 5), -1);
        CHECK.same("13 no side beyond", x.fault(11, 0, true, 1, 0, 0, 5), -1);
        CHECK.same("13 no side beyond", x.fault(0, 7, false, 1, 0, 0, 5), -1);
        CHECK.same("13 sides", x.fault(0, 0, true, 0, 0, 0, 5), -1);
        CHECK.same("13 sides", x.fault(0, 0, true, 9, 0, 0, 5), -1);
        CHECK.same("13 sides", x.fault(0, 1, true, 8, 0, 0, 5), -1);
        CHECK.same("13 sides", x.fault(0, 0, false, 13, 0, 0, 5), -1);
        CHECK.same("13 sides", x.fault(1, 0, false, 12, 0, 0, 5), -1);
        CHECK.same("13 sides", x.fault(0, 0, false, FAR_OFF, 0, 0, 5), -1);
        CHECK.same("13 throw", x.fault(0, 0, false, 1, 1, 0, 5), -1);
        CHECK.same("13 throw", x.fault(0, 0, false, 1, -301, 0, 5), -1);
        CHECK.same("13 throw", x.fault(0, 0, false, 1, 0, 301, 5), -1);
        CHECK.same("13 cost", x.fault(0, 0, false, 1, 0, 0, 0), -1);
        CHECK.same("13 cost", x.fault(0, 0, false, 1, 0, 0, 100), -1);
        CHECK.same("13 none", x.count(5), 0);
        CHECK.same("13 across", x.fault(0, 0, false, 12, -300, 300, 99), 0);
        CHECK.same("13 down", x.fault(0, 0, true, 8, 300, 300, 1), 1);
        CHECK.same("13 corner", x.fault(11, 6, false, 1, 0, 0, 1), 2);
        CHECK.same("13 corner", x.fault(10, 7, true, 1, -300, -300, 1), 3);
        CHECK.same("13 four are there", x.fault(0, 0, true, 1, 0, 0, 1), -1);

        LandSurvey y = Check.with("rock a 0 to 0; name a when 1; steep 1;");
        y.sight(2, 3, 3, 0, 0, 0);
        y.fault(3, 0, true, 8, 40, 50, 5);
        y.fault(0, 3, false, 12, -60, -55, 7);
        CHECK.same("13 to the right it is higher", y.base(1, 4, 3, 0), 540);
        CHECK.same("13 to the right it is higher", y.base(1, 4, 3, 1), 550);
        CHECK.same("13 to the right of the line", y.base(1, 5, 3, 1), 551);
        CHECK.same("13 this side", y.base(1, 2, 3, 1), 501);
        CHECK.same("13 below", y.base(2, 3, 4, 0), 440);
        CHECK.same("13 below", y.base(2, 3, 4, 1), 445);
        CHECK.same("13 above", y.base(2, 3, 2, 0), 499);
        CHECK.same("13 both", y.base(3, 4, 4, 0), 480);
        CHECK.same("13 both", y.base(3, 4, 4, 1), 495);
        CHECK.same("13 cost", y.cost(3), 12);
        LandSurvey z = Check.with("steep 1;");
        z.fault(3, 3, true, 1, 4, 9, 5);
        CHECK.same("13 round its end the land bends too little", z.cost(1), -1);
        z.fault(3, 3, true, 1, 3, 9, 5);
        CHECK.same("13 round its end the land bends enough", z.cost(2), 5);
        CHECK.same("13 of several the least", z.cost(3), -1);
    }

    private static void breaksOverDips() {
        LandSurvey x = Check.with("rock a 0 to 0; name a when 1; steep 50;");
        x.sight(2, 3, 3, 0, 0, 0);
        x.dip(0, 1, 10, 0);
        CHECK.same("13 dip", x.base(0, 4, 3, 0), 510);
        x.fault(3, 3, true, 1, -3, -3, 1);
        CHECK.same("13 its throw alone", x.base(1, 4, 3, 0), 497);
        CHECK.same("13 its throw alone", x.cost(1), 1);
    }

    private static void rivalry() {
        LandSurvey x = new LandSurvey();
        x.fault(0, 0, true, 8, 0, 0, 5);
        x.fault(1, 0, true, 8, 0, 0, 7);
        CHECK.same("14 none at first", x.best(3), 1);
        CHECK.no("14 below", x.rivalry(-1));
        CHECK.no("14 above", x.rivalry(1000));
        CHECK.yes("14 rivalry", x.rivalry(5));
        CHECK.same("14 two", x.best(3), 2);
        CHECK.yes("14 rivalry", x.rivalry(6));
        CHECK.same("14 two", x.best(3), 2);
        CHECK.yes("14 rivalry", x.rivalry(999));
        CHECK.same("14 all", x.best(3), 4);
        CHECK.yes("14 none", x.rivalry(0));
        CHECK.same("14 one", x.best(3), 1);
    }

    private static void look() {
        LandSurvey x = Check.with("rock a 10 to 20; rock b 1 to 2; rank 33 when hand = 2; draw full when 0; name b when colour = 2;"
            + "rank 44 when hand = 2; name a when colour = 1; name b when colour = 1; drift 7; remain 0 from a to a;");
        x.sight(1, 0, 0, 0, 2, 1000);
        x.sight(2, 11, 7, 100, 1, 2000);
        x.sight(2, 11, 7, 100, 1, 3000);
        x.remain(1, 0, false);
        int[][] due = {{0, 33, 1, 0, 0, 471, 506, 4}, {1, 10, 1, 1, 0, 398, 400, 2}};
        for (int k = 0; k < 2; k++) {
            for (int what = 0; what < 8; what++) {
                CHECK.same("15 look " + k + " " + what, x.look(k, what), due[k][what]);
            }
        }
        CHECK.same("15 without a rock", x.look(2, 0), -1);
        CHECK.same("15 worth", x.look(2, 1), 10);
        CHECK.same("15 says nothing", x.look(2, 2), 0);
        CHECK.same("15 not doubted", x.look(2, 4), 0);
        for (int what = 5; what < 8; what++) {
            int asked = what;
            CHECK.none("15 of one that says nothing", () -> x.look(2, asked));
        }
        CHECK.none("15 none such", () -> x.look(3, 0));
        CHECK.none("15 none such", () -> x.look(-1, 0));
        CHECK.none("15 what", () -> x.look(0, 8));
        CHECK.none("15 what", () -> x.look(0, -1));
        x.days(1);
        x.withdraw(1);
        CHECK.same("15 out of the view", x.look(1, 0), 1);
        CHECK.same("15 ages quarrel all the same", x.look(1, 3), 1);
        CHECK.none("15 out of the view", () -> x.look(1, 7));
    }

    private static LandSurvey conflict() {
        LandSurvey x = Check.with("rock a 0 to 0; name a when colour = 1; steep 0; rank 7 when hand = 1; rank 20 when hand = 2;");
        x.sight(2, 0, 0, 0, 2, 1000);
        x.sight(2, 11, 0, 5, 1, 1000);
        x.sight(2, 11, 7, 5, 0, 1000);
        x.sight(2, 5, 5, 900, 0, 2000);
        return x;
    }

    private static void cost() {
        LandSurvey x = conflict();
        CHECK.same("16 the least worths", x.cost(0), 17);
        CHECK.same("16 no such set", x.cost(1), -1);
        CHECK.same("16 no such set", x.cost(-1), -1);
        x.fault(10, 0, true, 8, -5, -5, 3);
        CHECK.same("16 by a break", x.cost(1), 3);
        CHECK.same("16 without it", x.cost(0), 17);
        CHECK.same("16 no such set", x.cost(2), -1);
        x.fault(10, 0, true, 1, 5, 5, 3);
        CHECK.same("16 a break that never fits", x.cost(2), -1);
        CHECK.same("16 the least break has the side", x.cost(3), 6);
        CHECK.same("16 no such set", x.cost(4), -1);
    }

    private static void doubted() {
        LandSurvey x = conflict();
        CHECK.same("17 first", x.doubted(0, 0), 1);
        CHECK.same("17 second", x.doubted(0, 1), 2);
        CHECK.same("17 no third", x.doubted(0, 2), -1);
        CHECK.same("17 below", x.doubted(0, -1), -1);
        CHECK.same("17 far", x.doubted(0, FAR_OFF), -1);
        CHECK.same("15 doubted in the best", x.look(1, 4), 1);
        CHECK.same("15 not doubted in the best", x.look(0, 4), 0);
        x.days(1);
        x.withdraw(1);
        CHECK.same("17 of equal ones the least", x.doubted(0, 0), 2);
        x.view(0);
        CHECK.same("17 no such set", x.doubted(1, 0), -1);
        CHECK.same("17 no such set", x.doubted(-1, 0), -1);
        // equal costs: 2 to the 1 and 2 to the 2 are less than 2 to the 0 and 2 to the 3
        LandSurvey y = Check.with("rock a 0 to 0; name a when 1; steep 0;");
        for (int k = 0; k < 4; k++) {
            y.sight(2, k, 0, k == 0 || k == 3 ? 1 : 0, 0, 0);
        }
        CHECK.same("17 of equal ones", y.doubted(0, 0), 1);
        CHECK.same("17 of equal ones", y.doubted(0, 1), 2);
        LandSurvey w = Check.with("rock a 0 to 0; name a when 1; steep 0;");
        w.sight(2, 0, 0, 1, 0, 0);
        w.sight(2, 5, 5, 0, 0, 0);
        CHECK.same("17 the least sight", w.doubted(0, 0), 0);
        // the sight with the dip is to blame together with the bores at either end
        LandSurvey z = Check.with("rock a 0 to 0; name a when 1; steep 3; rank 1 when hand = 1;");
        z.sight(2, 4, 4, 0, 0, 0);
        z.sight(2, 5, 4, 0, 0, 0);
        z.sight(2, 4, 4, 0, 1, 0);
        z.dip(2, 1, 3, 2);
        CHECK.same("17 the dip's sight", z.doubted(0, 0), 2);
        CHECK.same("17 alone", z.best(1), 1);
    }

    private static void best() {
        LandSurvey x = conflict();
        CHECK.same("18 set", x.best(0), 0);
        CHECK.same("18 cost", x.best(1), 17);
        CHECK.same("18 doubted", x.best(2), 2);
        CHECK.same("18 kept", x.best(3), 1);
        CHECK.same("18 what", x.best(4), -1);
        CHECK.same("18 what", x.best(-1), -1);
        x.fault(10, 0, true, 8, -5, -5, 17);
        CHECK.same("18 of equal ones the least set", x.best(0), 0);
        x.fault(10, 0, true, 8, -5, -5, 16);
        CHECK.same("18 the least cost", x.best(0), 2);
        CHECK.same("18 none doubted", x.best(2), 0);
        LandSurvey y = Check.with("rock a 0 to 0; name a when 1; steep 0;");
        for (int k = 0; k < 5; k++) {
            y.sight(2, k, 0, k, 0, 0);
        }
        CHECK.same("18 more than three", y.best(0), -1);
        CHECK.same("18 more than three", y.best(1), -1);
        CHECK.same("18 more than three", y.best(2), -1);
        CHECK.same("18 nothing is kept", y.best(3), 0);
        CHECK.same("18 not doubted in none", y.look(0, 4), 0);
        y.withdraw(4);
        CHECK.same("18 three", y.best(2), 3);
    }

    private static void kept() {
        LandSurvey x = conflict();
        x.fault(10, 0, true, 8, -5, -5, 3);
        x.fault(0, 0, true, 1, 9, 9, 3);
        CHECK.same("19 not kept", x.kept(0), 0);
        CHECK.same("19 kept", x.kept(1), 1);
        CHECK.same("19 without a ground", x.kept(2), 0);
        CHECK.same("19 no such set", x.kept(4), -1);
        CHECK.same("19 no such set", x.kept(-1), -1);
        x.rivalry(13);
        CHECK.same("19 not yet", x.kept(0), 0);
        x.rivalry(14);
        CHECK.same("19 kept", x.kept(0), 1);
        CHECK.same("19 without a ground", x.kept(3), 0);
    }

    private static void base() {
        LandSurvey x = conflict();
        CHECK.same("20 low", x.base(0, 11, 7, 0), 500);
        CHECK.same("20 high", x.base(0, 11, 7, 1), 500);
        CHECK.none("20 off", () -> x.base(0, 12, 0, 0));
        CHECK.none("20 off", () -> x.base(0, 0, -1, 0));
        CHECK.none("20 what", () -> x.base(0, 0, 0, 2));
        CHECK.none("20 what", () -> x.base(0, 0, 0, -1));
        CHECK.none("20 no such set", () -> x.base(1, 0, 0, 0));
        x.fault(0, 0, true, 1, 9, 9, 3);
        CHECK.none("20 no ground", () -> x.base(1, 0, 0, 0));
        LandSurvey y = Check.with("rock a 0 to 10; name a when 1; steep 2;");
        CHECK.none("20 unknown", () -> y.base(0, 0, 0, 0));
        y.sight(1, 5, 5, 0, 0, 0);
        CHECK.same("20 loose", y.base(0, 5, 5, 0), 470);
        CHECK.same("20 loose", y.base(0, 5, 5, 1), 520);
        CHECK.same("20 far off", y.base(0, 0, 0, 0), 450);
        CHECK.same("20 far off", y.base(0, 0, 0, 1), 540);
        y.sight(2, 0, 0, 0, 0, 0);
        CHECK.same("20 both", y.base(0, 0, 0, 0), 490);
        CHECK.same("20 both", y.base(0, 5, 5, 0), 470);
        CHECK.same("20 both", y.base(0, 0, 1, 1), 502);
    }

    private static void lies() {
        LandSurvey x = Check.with("rock a 10 to 20; rock b 0 to 0; rock c 30 to 40; name c when 1; steep 0;");
        x.sight(2, 0, 0, 100, 0, 0);
        x.sight(2, 1, 0, 130, 0, 0);
        // the base is 360 to 370: c up to 410 at most, a from 390 at least, 430 at most, all above from 400 on
        CHECK.same("21 base", x.base(0, 0, 0, 0), 360);
        CHECK.same("21 base", x.base(0, 0, 0, 1), 370);
        CHECK.same("21 deepest c alone", x.lies(2, 2, 130), 4);
        CHECK.same("21 below all perhaps", x.lies(2, 2, 131), 1028);
        CHECK.same("21 below all", x.lies(2, 2, 141), 1024);
        CHECK.same("21 c", x.lies(2, 2, 111), 4);
        CHECK.same("21 from 390 on", x.lies(2, 2, 110), 7);
        CHECK.same("21 at 400", x.lies(2, 2, 100), 7);
        CHECK.same("21 at 401", x.lies(2, 2, 99), 2055);
        CHECK.same("21 at 410", x.lies(2, 2, 90), 2055);
        CHECK.same("21 at 411", x.lies(2, 2, 89), 2049);
        CHECK.same("21 at 430", x.lies(2, 2, 70), 2049);
        CHECK.same("21 at 431", x.lies(2, 2, 69), 2048);
        CHECK.same("21 top", x.lies(2, 2, 0), 2048);
        CHECK.same("21 deepest", x.lies(2, 2, 2000), 1024);
        CHECK.same("21 depth", x.lies(2, 2, 2001), -1);
        CHECK.same("21 depth", x.lies(2, 2, -1), -1);
        CHECK.same("21 off", x.lies(12, 2, 0), -1);
        CHECK.same("21 off", x.lies(2, 8, 0), -1);
        x.fold(2, 2, true);
        CHECK.same("21 turned over", x.lies(2, 2, 130), 7);
        CHECK.same("21 turned over", x.lies(2, 2, 131), 1025);
        x.fault(1, 0, true, 8, 100, 100, 5);
        x.rivalry(5);
        CHECK.same("21 by all kept", x.lies(3, 3, 130), 1028);
        CHECK.same("21 by all kept", x.lies(3, 3, 141), 1024);
        CHECK.same("21 by all kept", x.lies(3, 3, 69), 3072);
    }

    private static void line() {
        LandSurvey x = Check.with("rock a 50 to 50; rock b 50 to 50; name b when 1; steep 0;");
        x.sight(2, 0, 0, 0, 0, 0);
        x.sight(2, 1, 0, 50, 0, 0);
        // the base is 450 everywhere
        x.cell(5, 5, 480, true);
        x.cell(6, 5, 520, true);
        x.cell(7, 5, 500, true);
        x.cell(5, 6, 481, true);
        CHECK.same("22 others", x.line(5, 5, 1), 3);
        CHECK.same("22 others", x.line(6, 5, 0), 3);
        CHECK.same("22 not certain", x.line(6, 5, 1), 1);
        CHECK.same("22 the same", x.line(5, 5, 3), 0);
        CHECK.same("22 the same", x.line(5, 6, 2), 0);
        CHECK.same("22 off", x.line(0, 0, 0), -1);
        CHECK.same("22 off", x.line(0, 0, 2), -1);
        CHECK.same("22 off", x.line(11, 7, 1), -1);
        CHECK.same("22 off", x.line(11, 7, 3), -1);
        CHECK.same("22 where", x.line(0, 0, 4), -1);
        CHECK.same("22 where", x.line(0, 0, -1), -1);
        CHECK.same("22 off", x.line(12, 0, 0), -1);
        CHECK.same("22 off", x.line(0, 7, 3), -1);
        CHECK.same("22 off", x.line(0, 3, 0), -1);
        CHECK.same("22 off", x.line(11, 3, 1), -1);
        CHECK.same("22 not certain", x.line(1, 1, 0), 1);
        CHECK.same("22 not certain", x.line(10, 6, 1), 1);
        CHECK.same("22 not certain", x.line(0, 1, 2), 1);
        CHECK.same("22 not certain", x.line(0, 6, 3), 1);
        x.cell(5, 5, 500, true);
        x.cell(6, 5, 501, true);
        CHECK.same("22 at depth 0", x.line(5, 5, 1), 1);
        CHECK.same("22 at depth 0", x.line(6, 5, 1), 1);
        LandSurvey y = Check.with("rock a 50 to 50; rock b 0 to 0; rock c 50 to 50; name c when 1; steep 0;");
        y.sight(2, 0, 0, 0, 0, 0);
        y.sight(2, 1, 0, 50, 0, 0);
        y.cell(5, 5, 500, true);
        y.cell(6, 5, 600, true);
        y.cell(7, 5, 601, true);
        CHECK.same("22 apart", y.line(6, 5, 0), 2);
        CHECK.same("22 above all both", y.line(7, 5, 0), 0);
        y.cell(5, 5, 450, true);
        CHECK.same("22 c alone against a", y.line(5, 5, 1), 3);
        LandSurvey z = Check.with("rock a 50 to 60; rock c 50 to 60; name c when 1; steep 0;");
        z.sight(2, 0, 0, 0, 0, 0);
        z.sight(2, 1, 0, 60, 0, 0);
        // the base is 440: c to 500 at most, from 491 on a perhaps
        z.cell(5, 5, 495, true);
        z.cell(6, 5, 700, true);
        CHECK.same("22 two of which one is not certain", z.line(5, 5, 1), 2);
    }

    private static void lineByDrawRules() {
        String rocks = "rock a 50 to 50; rock b 50 to 50; name b when 1; steep 0; ";
        String[] rules = {"draw dotted when agree = 1000;", "draw full when 0; draw broken when apart = 1000; draw dotted when 1;",
            "draw dotted when kept = 1 and same = 0;", "draw full when colour or height or depth; draw broken when 1;"};
        int[] due = {1, 2, 1, 2};
        for (int k = 0; k < rules.length; k++) {
            LandSurvey x = Check.with(rocks + rules[k]);
            x.sight(2, 0, 0, 0, 0, 9999);
            x.sight(2, 1, 0, 50, 0, 9999);
            x.cell(5, 5, 480, true);
            x.cell(6, 5, 520, true);
            CHECK.same("22 " + rules[k], x.line(5, 5, 1), due[k]);
        }
        LandSurvey y = Check.with(rocks + "draw full when agree = 333; draw broken when agree = 666 and apart = 666 and same = 333 and kept = 3;");
        y.sight(2, 0, 0, 0, 0, 0);
        y.sight(2, 1, 0, 50, 0, 0);
        y.cell(5, 5, 480, true);
        y.cell(6, 5, 520, true);
        y.fault(5, 0, true, 8, 50, 50, 4);
        y.fault(9, 0, true, 8, 0, 0, 4);
        y.rivalry(4);
        CHECK.same("22 of 1000, cut", y.line(5, 5, 1), 2);
        CHECK.same("22 no draw line", y.line(0, 0, 1), 1);
    }

    private static void deep() {
        LandSurvey x = Check.with("rock a 10 to 20; rock b 1 to 2; rock c 30 to 40; name c when 1; steep 0;");
        CHECK.none("23 unknown", () -> x.deep(0, 0, 0, 0));
        x.sight(2, 0, 0, 100, 0, 0);
        x.sight(2, 1, 0, 130, 0, 0);
        CHECK.same("23 from", x.deep(3, 3, 0, 0), 500 - 370 - 42 - 20);
        CHECK.same("23 to", x.deep(3, 3, 0, 1), 500 - 360 - 31 - 10);
        CHECK.same("23 oldest", x.deep(3, 3, 2, 0), 500 - 370 - 40);
        x.fold(3, 3, true);
        CHECK.same("23 turned", x.deep(3, 3, 0, 0), 500 - 370 - 20);
        CHECK.same("23 turned", x.deep(3, 3, 2, 1), 500 - 360 - 11 - 30);
        x.fault(1, 0, true, 8, 100, 100, 5);
        x.rivalry(5);
        CHECK.same("23 by all kept", x.deep(3, 3, 0, 0), 500 - 470 - 20);
        CHECK.same("23 by all kept", x.deep(3, 3, 0, 1), 500 - 360 - 10);
        CHECK.none("23 rock", () -> x.deep(3, 3, 3, 0));
        CHECK.none("23 rock", () -> x.deep(3, 3, -1, 0));
        CHECK.none("23 what", () -> x.deep(3, 3, 0, 2));
        CHECK.none("23 what", () -> x.deep(3, 3, 0, -1));
        CHECK.none("23 off", () -> x.deep(12, 3, 0, 0));
    }

    private static void water() {
        LandSurvey x = Check.with("rock a 10 to 10; rock b 20 to 20; rock c 30 to 30; rock d 40 to 40; name d when 1; steep 0;"
            + "holds a; holds c; tight b; tight d; holds d;");
        CHECK.same("24 unknown", x.water(0, 0, 0), -1);
        x.sight(2, 0, 0, 110, 0, 0);
        x.sight(2, 1, 0, 150, 0, 0);
        // the base is 350: d to 390, c to 420, b to 440, a to 450
        CHECK.same("24 uppermost", x.water(2, 2, 0), 60);
        CHECK.same("24 uppermost", x.water(2, 2, 1), 60);
        x.cell(2, 2, 440, true);
        CHECK.same("24 at the ground", x.water(2, 2, 0), 0);
        x.cell(2, 2, 439, true);
        CHECK.same("24 above the ground", x.water(2, 2, 0), 49);
        x.cell(2, 2, 389, true);
        CHECK.same("24 none", x.water(2, 2, 0), -1);
        x.cell(2, 2, 500, true);
        x.fold(2, 2, true);
        // turned: a to 360, b to 380, c to 410, d to 450; c on tight b
        CHECK.same("24 turned", x.water(2, 2, 0), 120);
        LandSurvey top = Check.with("rock a 10 to 10; rock b 20 to 20; name b when 1; holds b; tight a;");
        top.sight(2, 0, 0, 30, 0, 0);
        top.sight(2, 0, 0, 50, 0, 0);
        CHECK.same("24 not turned", top.water(0, 0, 1), -1);
        top.fold(0, 0, true);
        // turned: z is from 10 to 30 above the base for either sight, so the base is 440
        CHECK.same("24 turned, the uppermost of all", top.water(0, 0, 0), 50);
        CHECK.same("24 turned, the uppermost of all", top.water(0, 0, 1), 50);
        CHECK.same("24 what", x.water(2, 2, 2), -1);
        CHECK.same("24 what", x.water(2, 2, -1), -1);
        CHECK.same("24 off", x.water(12, 2, 0), -1);
        x.fault(1, 0, true, 8, 60, 60, 5);
        x.rivalry(5);
        CHECK.same("24 not above in any", x.water(3, 3, 0), 0);
        CHECK.same("24 to the greatest", x.water(3, 3, 1), 60);
        x.cell(3, 3, 499, true);
        CHECK.same("24 above in one", x.water(3, 3, 0), 49);
        LandSurvey y = Check.with("rock a 10 to 10; rock b 20 to 20; name b when 1; holds a; holds b;");
        y.sight(2, 0, 0, 110, 0, 0);
        CHECK.same("24 nothing tight", y.water(0, 0, 0), -1);
    }

    private static void seam() {
        LandSurvey x = Check.with("rock a 10 to 20; rock b 30 to 40; name b when 1; steep 0;");
        x.own(0, 0, 2);
        x.own(5, 5, 2);
        x.own(6, 5, 1);
        CHECK.same("25 unknown", x.seam(0, 2, 0), -1);
        CHECK.same("25 unknown", x.seam(0, 3, 0), -1);
        x.sight(2, 0, 0, 100, 0, 0);
        x.sight(2, 1, 0, 140, 0, 0);
        // the base is 360: b's foot there, a's top from 400 to 420
        CHECK.same("25 from", x.seam(0, 2, 0), 20);
        CHECK.same("25 to", x.seam(0, 2, 1), 40);
        CHECK.same("25 another rock", x.seam(1, 2, 1), 80);
        CHECK.same("25 nothing held", x.seam(1, 3, 1), 0);
        x.cell(5, 5, 420, true);
        CHECK.same("25 its top at the ground", x.seam(0, 2, 0), 20);
        x.cell(5, 5, 419, true);
        CHECK.same("25 its top perhaps above", x.seam(0, 2, 0), 10);
        x.cell(5, 5, 391, true);
        CHECK.same("25 its foot perhaps below", x.seam(0, 2, 1), 40);
        x.cell(5, 5, 390, true);
        CHECK.same("25 its foot at the ground", x.seam(0, 2, 1), 20);
        CHECK.same("25 rock", x.seam(2, 2, 0), -1);
        CHECK.same("25 rock", x.seam(-1, 2, 0), -1);
        CHECK.same("25 owner", x.seam(0, 4, 0), -1);
        CHECK.same("25 owner", x.seam(0, -1, 0), -1);
        CHECK.same("25 what", x.seam(0, 2, 2), -1);
        CHECK.same("25 what", x.seam(0, 2, -1), -1);
    }

    private static LandSurvey layers() {
        LandSurvey x = Check.with("rock a 50 to 50; rock b 50 to 50; name b when 1; steep 0;");
        x.sight(2, 0, 0, 0, 0, 0);
        x.sight(2, 1, 0, 50, 0, 0);
        return x;
    }

    private static void sheet() {
        LandSurvey x = layers();
        CHECK.same("26 off", x.sheet(0, 0, 12, 0), -1);
        CHECK.same("26 off", x.sheet(0, -1, 1, 0), -1);
        CHECK.same("26 off", x.sheet(0, 0, 0, 8), -1);
        CHECK.same("26 behind", x.sheet(2, 0, 1, 7), -1);
        CHECK.same("26 behind", x.sheet(0, 2, 11, 1), -1);
        for (int k = 0; k < 10; k++) {
            CHECK.same("26 sheet", x.sheet(0, 0, 11, 7), k);
        }
        CHECK.same("26 ten are there", x.sheet(0, 0, 0, 0), -1);
        LandSurvey y = Check.with("steep 0;");
        CHECK.same("26 unknown is drawn", y.sheet(3, 3, 3, 3), 0);
        CHECK.same("26 as unknown", y.drawn(0, 3, 3), 3072);
    }

    private static void drawn() {
        LandSurvey x = layers();
        x.cell(5, 5, 480, true);
        x.sheet(4, 5, 6, 6);
        CHECK.same("27 drawn", x.drawn(0, 5, 5), 2);
        x.cell(5, 5, 520, true);
        CHECK.same("27 as drawn", x.drawn(0, 5, 5), 2);
        CHECK.same("27 both rocks", x.drawn(0, 6, 6), 3);
        CHECK.same("27 not of it", x.drawn(0, 3, 5), -1);
        CHECK.same("27 not of it", x.drawn(0, 7, 5), -1);
        CHECK.same("27 not of it", x.drawn(0, 4, 4), -1);
        CHECK.same("27 not of it", x.drawn(0, 4, 7), -1);
        CHECK.same("27 off", x.drawn(0, 12, 5), -1);
        CHECK.same("27 none such", x.drawn(1, 5, 5), -1);
        CHECK.same("27 none such", x.drawn(-1, 5, 5), -1);
    }

    private static void quarrel() {
        LandSurvey x = layers();
        x.sheet(0, 0, 5, 5);
        x.cell(5, 5, 480, true);
        x.cell(4, 5, 481, true);
        x.sheet(4, 4, 11, 7);
        CHECK.same("28 something in common", x.quarrel(0, 1), 0);
        x.cell(5, 5, 520, true);
        x.cell(4, 5, 521, true);
        x.cell(6, 6, 900, true);
        x.sheet(5, 5, 11, 7);
        CHECK.same("28 cells of both", x.quarrel(1, 2), 2);
        CHECK.same("28 either way", x.quarrel(2, 1), 2);
        CHECK.same("28 cells of both", x.quarrel(0, 2), 0);
        CHECK.same("28 with itself", x.quarrel(2, 2), 0);
        CHECK.same("28 none such", x.quarrel(0, 3), -1);
        CHECK.same("28 none such", x.quarrel(-1, 0), -1);
        LandSurvey y = Check.with("rock a 50 to 50; rock b 50 to 50; name b when 1; steep 0;");
        y.sight(2, 5, 0, 0, 0, 0);
        y.sight(2, 6, 0, 50, 0, 0);
        for (int height = 480; height <= 520; height += 40) {
            y.cell(0, 0, height, true);
            y.cell(11, 7, height, true);
            y.sheet(0, 0, 11, 7);
        }
        CHECK.same("28 the corners", y.quarrel(0, 1), 2);
        y.cell(0, 0, 480, true);
        CHECK.same("29 a corner", y.stale(1), 1);
    }

    private static void stale() {
        LandSurvey x = layers();
        CHECK.same("29 none such", x.stale(0), -1);
        x.sheet(2, 2, 5, 5);
        CHECK.same("29 fresh", x.stale(0), 0);
        x.cell(2, 2, 480, true);
        x.cell(5, 5, 520, true);
        x.cell(6, 6, 520, true);
        CHECK.same("29 two", x.stale(0), 2);
        CHECK.same("29 none such", x.stale(-1), -1);
        x.days(1);
        x.withdraw(0);
        x.withdraw(1);
        CHECK.same("29 all", x.stale(0), 16);
        x.view(0);
        CHECK.same("29 by the view", x.stale(0), 2);
        x.view(1);
        for (int depth = 0; depth <= 800; depth += 200) {
            x.sight(2, 0, 0, depth, 0, 0);
        }
        CHECK.same("29 nothing is kept", x.stale(0), -1);
        CHECK.same("29 nothing is kept", x.sheet(0, 0, 0, 0), -1);
        CHECK.same("29 nothing is kept", x.lies(0, 0, 0), -1);
        CHECK.same("29 nothing is kept", x.line(0, 0, 1), -1);
        CHECK.same("29 nothing is kept", x.water(0, 0, 1), -1);
        CHECK.same("29 nothing is kept", x.seam(0, 0, 1), -1);
        CHECK.same("29 nothing is kept", x.count(10), 0);
        CHECK.none("29 nothing is kept", () -> x.deep(0, 0, 0, 0));
        CHECK.same("29 as drawn", x.drawn(0, 2, 2), 3);
    }

    private static LandSurvey handsAtWork() {
        LandSurvey x = Check.with("rock a 0 to 50; rock b 0 to 50; rock c 0 to 50; name a when colour = 0; name b when colour = 1;"
            + "name c when colour = 2;");
        x.sight(2, 0, 0, 10, 0, 1000);
        x.sight(3, 0, 0, 10, 1, 0);
        x.sight(2, 0, 0, 10, 1, 1000);
        x.sight(2, 0, 0, 11, 1, 1000);
        x.sight(2, 1, 0, 10, 1, 1000);
        x.sight(2, 0, 0, 10, 1, 5000);
        return x;
    }

    private static void doubles() {
        LandSurvey x = handsAtWork();
        CHECK.same("30 doubles", x.doubles(0, 1, 0), 2);
        CHECK.same("30 alike", x.doubles(0, 1, 1), 1);
        CHECK.same("30 either way", x.doubles(1, 0, 0), 2);
        x.sight(2, 0, 0, 10, 4, 1000);
        CHECK.same("30 alike", x.doubles(4, 0, 1), 1);
        CHECK.same("30 alike", x.doubles(1, 4, 1), 1);
        CHECK.same("30 doubles", x.doubles(1, 4, 0), 2);
        CHECK.same("30 none", x.doubles(0, 2, 0), 0);
        CHECK.same("30 the same", x.doubles(1, 1, 0), -1);
        CHECK.same("30 hand", x.doubles(6, 1, 0), -1);
        CHECK.same("30 hand", x.doubles(0, -1, 0), -1);
        CHECK.same("30 what", x.doubles(0, 1, 2), -1);
        CHECK.same("30 what", x.doubles(0, 1, -1), -1);
        x.withdraw(1);
        CHECK.same("30 those that say something", x.doubles(0, 1, 0), 1);
    }

    private static void habit() {
        LandSurvey x = handsAtWork();
        CHECK.same("31 too few", x.habit(0), 0);
        x.sight(2, 0, 0, 10, 2, 1000);
        CHECK.same("31 1 of 3 is not enough", x.habit(0), 0);
        x.sight(4, 0, 0, 10, 2, 0);
        CHECK.same("31 2 of 4 is not enough", x.habit(0), 0);
        x.sight(4, 0, 0, 10, 3, 0);
        CHECK.same("31 3 of 5 names older", x.habit(0), 1);
        CHECK.same("31 names younger", x.habit(3), -1);
        CHECK.same("31 nobody", x.habit(5), 0);
        CHECK.none("31 none such", () -> x.habit(6));
        CHECK.none("31 none such", () -> x.habit(-1));
        LandSurvey y = Check.with("rock a 0 to 50; rock b 0 to 50; rock c 0 to 50; name a when colour = 0; name c when 1;");
        y.sight(2, 0, 0, 0, 0, 9000);
        y.sight(2, 0, 0, 0, 1, 0);
        y.sight(2, 0, 0, 0, 1, 0);
        CHECK.same("31 two are too few", y.habit(0), 0);
        y.sight(2, 0, 0, 0, 2, 9000);
        CHECK.same("31 three are enough", y.habit(0), 1);
    }

    private static void question() {
        LandSurvey x = new LandSurvey();
        CHECK.no("32 off", x.question(12, 0, true));
        CHECK.no("32 off", x.question(0, 8, false));
        CHECK.no("32 off", x.question(-1, 0, true));
        CHECK.yes("32 none as it was", x.question(0, 0, false));
        for (int k = 0; k < 8; k++) {
            CHECK.yes("32 question", x.question(k, 7, true));
            CHECK.yes("32 again", x.question(k, 7, true));
            CHECK.same("32 a set", x.count(11), k + 1);
        }
        CHECK.no("32 eight are", x.question(8, 7, true));
        CHECK.yes("32 one less", x.question(0, 7, false));
        CHECK.yes("32 one more", x.question(8, 7, true));
        CHECK.same("32 eight", x.count(11), 8);
    }

    private static void place() {
        LandSurvey x = new LandSurvey();
        CHECK.same("33 off", x.place(12, 0, 1), -1);
        CHECK.same("33 off", x.place(0, 8, 1), -1);
        CHECK.same("33 off", x.place(0, -1, 1), -1);
        CHECK.same("33 cost", x.place(0, 0, 0), -1);
        CHECK.same("33 cost", x.place(0, 0, 100), -1);
        for (int k = 0; k < 8; k++) {
            CHECK.same("33 place", x.place(0, 0, k == 0 ? 99 : k), k);
        }
        CHECK.same("33 eight are there", x.place(1, 1, 1), -1);
        CHECK.same("33 count", x.count(12), 8);
    }

    private static LandSurvey asking() {
        LandSurvey x = Check.with("rock a 0 to 100; name a when 1; steep 3;");
        x.question(2, 0, true);
        x.question(0, 1, true);
        x.place(0, 0, 10);
        x.place(2, 0, 4);
        x.place(11, 7, 1);
        return x;
    }

    private static LandSurvey askingBehindADip() {
        LandSurvey x = Check.with("rock a 0 to 5; name a when 1; steep 9;");
        x.sight(2, 5, 5, 501, 0, 0);
        x.dip(0, 1, 20, 3);
        x.question(6, 5, true);
        x.place(5, 5, 1);
        x.place(6, 5, 1);
        return x;
    }

    private static void doubt() {
        LandSurvey x = asking();
        CHECK.same("34 unknown", x.doubt(), -1);
        x.sight(2, 0, 0, 0, 0, 0);
        // 400 to 500 at the sight; 6 more either way at one question, 3 at the other
        CHECK.same("34 doubt", x.doubt(), 112 + 106);
        x.question(2, 0, false);
        x.question(0, 1, false);
        CHECK.same("34 nothing asked", x.doubt(), 0);
        CHECK.same("34 by the dip", askingBehindADip().doubt(), 11);
        for (int k = 1; k < 5; k++) {
            x.sight(2, 0, 0, 200 * k, 0, 0);
        }
        CHECK.same("34 there is no best", x.doubt(), -1);
    }

    private static void left() {
        LandSurvey x = asking();
        CHECK.same("35 unknown", x.left(0), -1);
        x.sight(2, 0, 0, 0, 0, 0);
        CHECK.same("35 at the sight", x.left(0), 12 + 6);
        CHECK.same("35 at a question", x.left(1), 18);
        CHECK.same("35 far off", x.left(2), Math.min(112, 96) + Math.min(106, 102));
        CHECK.same("35 none such", x.left(3), -1);
        CHECK.same("35 none such", x.left(-1), -1);
        x.question(2, 0, false);
        x.question(0, 1, false);
        CHECK.same("35 nothing asked", x.left(0), 0);
        LandSurvey z = Check.with("rock a 0 to 100; name a when 1; steep 10;");
        z.sight(2, 0, 0, 0, 0, 0);
        z.sight(2, 2, 0, 60, 0, 0);
        z.question(2, 0, true);
        z.place(0, 0, 1);
        // 400 to 460 at either; at 400 there 400 to 420 is left here, at 460 and 430 more
        CHECK.same("35 the greatest of three", z.left(0), 40);
        LandSurvey y = askingBehindADip();
        CHECK.same("35 by the dip", y.left(0), 6);
        y.question(5, 5, true);
        // low 11, high 22 there; the middle 16 leaves 5 here
        CHECK.same("35 the middle is cut downwards", y.left(1), 5);
    }

    private static void next() {
        LandSurvey x = asking();
        CHECK.same("36 unknown", x.next(), -1);
        x.sight(2, 0, 0, 0, 0, 0);
        CHECK.same("36 the greatest gain for its cost", x.next(), 1);
        x.question(2, 0, false);
        x.question(0, 1, false);
        CHECK.same("36 nothing above 0", x.next(), -1);
        LandSurvey y = askingBehindADip();
        y.question(5, 5, true);
        CHECK.same("36 the first gains more than the other", y.next(), 1);
    }

    private static void nextOfEqualOnes() {
        LandSurvey x = Check.with("rock a 0 to 100; name a when 1; steep 0;");
        x.sight(2, 0, 0, 0, 0, 0);
        x.question(3, 3, true);
        x.place(0, 0, 3);
        x.place(1, 0, 2);
        x.place(2, 0, 2);
        CHECK.same("36 of equal ones the first", x.next(), 1);
        x.question(3, 3, false);
        x.question(0, 0, true);
        LandSurvey one = Check.with("rock a 0 to 1; name a when 1; steep 0;");
        one.sight(2, 0, 0, 0, 0, 0);
        one.question(0, 0, true);
        CHECK.same("36 no place", one.next(), -1);
        one.place(0, 0, 99);
        CHECK.same("34 the first cell", one.doubt(), 1);
        CHECK.same("35 the first cell", one.left(0), 0);
        CHECK.same("36 the first place", one.next(), 0);
        LandSurvey y = Check.with("rock a 0 to 0; name a when 1; steep 0;");
        y.sight(2, 0, 0, 0, 0, 0);
        y.question(3, 3, true);
        y.place(3, 3, 1);
        CHECK.same("36 nothing is in doubt", y.next(), -1);
        for (int k = 1; k < 5; k++) {
            y.sight(2, 0, 0, k, 0, 0);
        }
        CHECK.same("34 there is no best", y.doubt(), -1);
        CHECK.same("35 there is no best", y.left(0), -1);
        CHECK.same("36 there is no best", y.next(), -1);
    }

    private static void count() {
        LandSurvey x = Check.with("rock a 50 to 50; rock b 50 to 50; name b when colour = 0; name a when colour = 1; steep 0;"
            + "remain 0 from a to a;");
        x.sight(2, 0, 0, 10, 0, 0);
        x.sight(2, 0, 0, 60, 0, 5000);
        x.sight(2, 0, 0, 60, 0, 0);
        x.remain(0, 0, false);
        x.remain(1, 0, false);
        x.remain(2, 0, false);
        x.days(4);
        x.withdraw(2);
        x.sight(2, 0, 0, 0, 0, 1000);
        Check.rules(x, "rock");
        Check.feed(x, "steep");
        x.fault(0, 0, true, 1, 0, 0, 99);
        x.sheet(0, 0, 0, 0);
        x.question(1, 1, true);
        x.place(1, 1, 1);
        x.place(1, 1, 1);
        int[] due = {4, 4, 4, 2, 2, 1, 1, 1, 1, 5, 0, 1, 2};
        for (int what = 0; what < due.length; what++) {
            CHECK.same("37 count " + what, x.count(what), due[what]);
        }
        CHECK.same("37 what", x.count(13), -1);
        CHECK.same("37 what", x.count(-1), -1);
        // a at 500 and b at 490: the base is 440 to 450, and the top may be either at 490 to 500
        x.cell(3, 3, 480, true);
        x.cell(4, 3, 520, true);
        x.cell(5, 3, 600, true);
        CHECK.same("37 one thing alone", x.count(10), 3);
        x.cell(6, 3, 489, true);
        x.cell(7, 3, 490, true);
        x.cell(8, 3, 491, true);
        CHECK.same("37 at the top", x.count(10), 4);
        CHECK.same("22 at the top", x.line(6, 3, 1), 1);
        x.view(3);
        CHECK.same("37 told ahead or not", x.count(2), 4);
        CHECK.same("37 those that say something", x.count(3), 2);
        CHECK.same("37 those in which ages quarrel", x.count(7), 2);
    }

    private static void unknownGround() {
        // the dip leads nowhere round a square of so little steepness, so its sight is doubted and nothing is known
        LandSurvey x = Check.with("rock a 0 to 0; name a when 1; steep 1; holds a;");
        x.sight(2, 4, 4, 0, 0, 0);
        x.dip(0, 1, 50, 3);
        CHECK.same("20 doubted alone", x.best(1), 10);
        CHECK.none("20 unknown", () -> x.base(0, 0, 0, 0));
        CHECK.same("21 unknown", x.lies(0, 0, 0), 3073);
        CHECK.same("34 unknown", x.doubt(), -1);
        x.fault(4, 4, true, 1, 0, 3, 10);
        x.rivalry(0);
        CHECK.same("18 as dear", x.best(3), 2);
        CHECK.same("18 the least set", x.best(0), 0);
        CHECK.same("20 known there", x.base(1, 4, 4, 0), 500);
        CHECK.same("21 unknown in one", x.lies(4, 4, 0), 3073);
        CHECK.none("23 unknown in one", () -> x.deep(4, 4, 0, 0));
        CHECK.same("24 unknown in one", x.water(4, 4, 0), -1);
        CHECK.same("25 unknown in one", x.seam(0, 0, 0), -1);
        CHECK.same("34 unknown in the best", x.doubt(), -1);
    }
}
