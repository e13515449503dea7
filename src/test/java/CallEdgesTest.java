import java.util.ArrayList;
import java.util.List;

/**
 * The numbers that each call takes, one after the other: the last that is taken beside the first that is not,
 * the least and the greatest of all; and that a call that is refused changes nothing.
 */
public final class CallEdgesTest {
    private static final Check CHECK = new Check();
    private static final Sentences DOC = new Sentences("edges of the calls", CHECK);
    private static final int NONE = -1;
    private static final int FALSE = 0;
    private static final int THROWN = LandAtWork.THROWN;

    private interface Call {
        int answer(LandSurvey x, int[] n);
    }

    private CallEdgesTest() {
    }

    public static void main(String[] args) {
        DOC.test(1, "No SIGHT, no RULES, no BREAK; NOW is 0", CallEdgesTest::newObject);
        DOC.test(1, "No SIGHT, no RULES, no BREAK; NOW is 0", CallEdgesTest::objectsApart);
        DOC.test(1, "No SIGHT, no RULES, no BREAK; NOW is 0", CallEdgesTest::landAtWorkIsAsMeant);
        told();
        toldOfSights();
        toldOfBreaks();
        askedOfGrounds();
        askedOfCells();
        askedOfSheets();
        planned();
        DOC.end();
    }

    private static void newObject() {
        LandSurvey x = new LandSurvey();
        for (int what = 0; what <= 12; what++) {
            CHECK.same("count " + what, x.count(what), 0);
        }
        CHECK.same("no such break", x.cost(1), NONE);
        CHECK.same("the ground without any", x.cost(0), 0);
        CHECK.same("no such sheet", x.stale(0), NONE);
        CHECK.same("no such place", x.left(0), NONE);
        CHECK.no("no such sight", x.withdraw(0));
        CHECK.no("no such sight", x.dip(0, 0, 0, 0));
        CHECK.no("no such sight", x.remain(0, 0, false));
        CHECK.none("no such sight", () -> x.look(0, 0));
        CHECK.same("no day behind it", x.view(1) ? 1 : 0, 0);
        CHECK.same("the constant", LandSurvey.NONE, -1);
    }

    private static void objectsApart() {
        LandSurvey x = LandAtWork.make();
        LandSurvey y = new LandSurvey();
        CHECK.same("nothing of another object", y.count(2) + y.count(4) + y.count(5) + y.count(6) + y.count(9), 0);
        List<Integer> before = LandAtWork.seen(x);
        y.days(7);
        Check.rules(y, "rock z 1 to 2;");
        y.sight(2, 0, 0, 0, 0, 0);
        y.cell(0, 0, 9, false);
        CHECK.yes("nothing to another object", LandAtWork.seen(x).equals(before));
        CHECK.yes("the same calls, the same answers", LandAtWork.seen(LandAtWork.make()).equals(before));
    }

    private static void landAtWorkIsAsMeant() {
        LandSurvey x = LandAtWork.make();
        CHECK.same("all are kept", x.best(3), LandAtWork.SETS);
        CHECK.same("one is doubted", x.doubted(0, 0), 4);
        CHECK.same("one alone", x.best(2), 1);
        CHECK.same("sights", x.count(2), LandAtWork.SIGHTS);
        CHECK.same("that say something", x.count(3), LandAtWork.SIGHTS - 1);
        CHECK.same("nothing is kept", LandAtWork.makeWithoutGround().best(3), 0);
        LandSurvey y = LandAtWork.makeUnknownInOne();
        y.rivalry(1);
        CHECK.same("both are kept", y.best(3), 2);
        CHECK.none("unknown in one", () -> y.base(0, 0, 0, 0));
        CHECK.same("known in the other", y.base(1, 4, 4, 1), 400);
    }

    private static int answer(Call call, LandSurvey x, int[] usual, int index, int number) {
        int[] numbers = usual.clone();
        numbers[index] = number;
        return LandAtWork.answer(() -> call.answer(x, numbers));
    }

    private static List<Integer> outside(int from, int to) {
        int[] far = {Integer.MIN_VALUE, Integer.MIN_VALUE + 1, Integer.MIN_VALUE + from, Integer.MAX_VALUE, Integer.MAX_VALUE - 1,
            from - 256, from + 65536, from - 65536, to + 65536, from - 2, to + 2, -to - 1};
        List<Integer> all = new ArrayList<>();
        all.add(from - 1);
        all.add(to + 1);
        for (int number : far) {
            if (number < from || number > to) {
                all.add(number);
            }
        }
        return all;
    }

    /** The number at an index of the call: taken from .. to, refused with all others, which change nothing. */
    private static void range(int promise, String sentence, Call call, int refused, int[] usual, int index, int from, int to) {
        DOC.test(promise, sentence, () -> {
            int step = to - from <= 24 ? 1 : (to - from) / 8;
            for (int number = from; number <= to; number += step) {
                CHECK.no("number " + index + " is taken: " + number,
                    answer(call, LandAtWork.make(), usual, index, number) == refused);
            }
            CHECK.no("the last taken: " + to, answer(call, LandAtWork.make(), usual, index, to) == refused);
            for (int number : outside(from, to)) {
                LandSurvey x = LandAtWork.make();
                List<Integer> before = LandAtWork.seen(x);
                CHECK.same("number " + index + " is refused: " + number, answer(call, x, usual, index, number), refused);
                CHECK.yes("nothing changes behind " + number, LandAtWork.seen(x).equals(before));
            }
        });
    }

    private static void cell(int promise, String sentence, Call call, int refused, int[] usual, int index) {
        range(promise, sentence, call, refused, usual, index, 0, 11);
        range(promise, sentence, call, refused, usual, index + 1, 0, 7);
    }

    private static int[] of(int... numbers) {
        return numbers;
    }

    private static void told() {
        range(2, "n DAYS pass (0 to 1000): NOW; NONE for another n", (x, n) -> x.days(n[0]), NONE, of(0), 0, 0, 1000);
        range(3, "false: a DAY behind NOW, below 0", (x, n) -> x.view(n[0]) ? 1 : 0, FALSE, of(0), 0, 0, 3);
        Call cell = (x, n) -> x.cell(n[0], n[1], n[2], n[3] != 0) ? 1 : 0;
        cell(4, "false: none such, another height", cell, FALSE, of(0, 0, 7, 0), 0);
        range(4, "false: none such, another height", cell, FALSE, of(11, 7, 7, 1), 2, 0, 999);
        cell(5, "false: none such", (x, n) -> x.fold(n[0], n[1], n[2] != 0) ? 1 : 0, FALSE, of(0, 0, 1), 0);
        cell(5, "false: none such", (x, n) -> x.fold(n[0], n[1], n[2] != 0) ? 1 : 0, FALSE, of(11, 7, 0), 0);
        Call own = (x, n) -> x.own(n[0], n[1], n[2]) ? 1 : 0;
        cell(6, "false: none such", own, FALSE, of(0, 0, 2), 0);
        cell(6, "false: none such", own, FALSE, of(11, 7, NONE), 0);
        range(6, "A CELL's OWNER (NONE: nobody): true; false: none such", own, FALSE, of(0, 0, 0), 2, NONE, 3);
        range(14, "RIVALRY: true; false: another one", (x, n) -> x.rivalry(n[0]) ? 1 : 0, FALSE, of(0), 0, 0, 999);
    }

    private static void toldOfSights() {
        Call sight = (x, n) -> x.sight(n[0], n[1], n[2], n[3], n[4], n[5]);
        String others = "its number; NONE: other numbers";
        range(7, others, sight, NONE, of(0, 0, 0, 0, 0, 0), 0, 0, 4);
        for (int kind = 0; kind <= 4; kind++) {
            cell(7, others, sight, NONE, of(kind, 0, 0, 0, 5, 9999), 1);
            range(7, others, sight, NONE, of(kind, 5, 5, 0, 0, 0), 3, 0, kind < 2 ? 0 : 999);
            range(7, others, sight, NONE, of(kind, 5, 5, 0, 0, 0), 4, 0, 5);
            range(7, others, sight, NONE, of(kind, 5, 5, 0, 0, 0), 5, 0, 9999);
        }
        Call dip = (x, n) -> x.dip(n[0], n[1], n[2], n[3]) ? 1 : 0;
        range(8, "false: no such SIGHT, other numbers", dip, FALSE, of(2, 1, 0, 0), 0, 1, LandAtWork.SIGHTS - 1);
        range(8, "false: no such SIGHT, other numbers", dip, FALSE, of(2, 1, 0, 0), 1, 0, 3);
        range(8, "false: no such SIGHT, other numbers", dip, FALSE, of(2, 1, 0, 0), 2, -99, 99);
        range(8, "false: no such SIGHT, other numbers", dip, FALSE, of(2, 1, 0, 0), 3, 0, 99);
        Call remain = (x, n) -> x.remain(n[0], n[1], n[2] != 0) ? 1 : 0;
        for (int washed = 0; washed < 2; washed++) {
            range(9, "false: no such SIGHT, other number", remain, FALSE, of(2, 0, washed), 0, 1, LandAtWork.SIGHTS - 1);
            range(9, "false: no such SIGHT, other number", remain, FALSE, of(1, 0, washed), 1, 0, 9);
        }
        range(10, "WITHDRAWN: true; false: none such", (x, n) -> x.withdraw(n[0]) ? 1 : 0, FALSE, of(0), 0, 0, 4);
    }

    private static void toldOfBreaks() {
        Call fault = (x, n) -> x.fault(n[0], n[1], n[2] != 0, n[3], n[4], n[5], n[6]);
        String others = "NONE: other numbers, SIDES off THE LAND";
        range(13, others, fault, NONE, of(0, 0, 1, 1, 0, 0, 1), 0, 0, 10);
        range(13, others, fault, NONE, of(0, 0, 0, 1, 0, 0, 1), 0, 0, 11);
        range(13, others, fault, NONE, of(0, 0, 1, 1, 0, 0, 1), 1, 0, 7);
        range(13, others, fault, NONE, of(0, 0, 0, 1, 0, 0, 1), 1, 0, 6);
        range(13, others, fault, NONE, of(0, 0, 1, 1, 0, 0, 1), 3, 1, 8);
        range(13, others, fault, NONE, of(0, 0, 0, 1, 0, 0, 1), 3, 1, 12);
        range(13, others, fault, NONE, of(9, 5, 1, 1, 0, 0, 1), 3, 1, 3);
        range(13, others, fault, NONE, of(9, 5, 0, 1, 0, 0, 1), 3, 1, 3);
        range(13, others, fault, NONE, of(10, 7, 1, 1, 0, 0, 1), 3, 1, 1);
        range(13, others, fault, NONE, of(11, 6, 0, 1, 0, 0, 1), 3, 1, 1);
        for (int down = 0; down < 2; down++) {
            range(13, others, fault, NONE, of(0, 0, down, 1, 0, 300, 1), 4, -300, 300);
            range(13, others, fault, NONE, of(0, 0, down, 1, -300, 0, 1), 5, -300, 300);
            range(13, others, fault, NONE, of(0, 0, down, 1, 0, 7, 1), 4, -300, 7);
            range(13, others, fault, NONE, of(0, 0, down, 1, -7, 0, 1), 5, -7, 300);
            range(13, others, fault, NONE, of(0, 0, down, 1, 0, 0, 1), 6, 1, 99);
        }
    }

    private static void askedOfGrounds() {
        Call look = (x, n) -> x.look(n[0], n[1]);
        range(15, "NoSuchElementException: none such", look, THROWN, of(0, 0), 0, 0, LandAtWork.SIGHTS - 1);
        range(15, "NoSuchElementException: none such", look, THROWN, of(0, 0), 1, 0, 7);
        range(15, "NoSuchElementException: none such; 5, 6, 7 of one that says nothing", look, THROWN, of(5, 0), 1, 0, 4);
        range(16, "NONE: no such set, none", (x, n) -> x.cost(n[0]), NONE, of(0), 0, 0, LandAtWork.SETS - 1);
        Call doubted = (x, n) -> x.doubted(n[0], n[1]);
        range(17, "NONE: none such", doubted, NONE, of(0, 0), 0, 0, LandAtWork.SETS - 1);
        range(17, "NONE: none such", doubted, NONE, of(0, 0), 1, 0, 0);
        range(18, "NONE: there is none (3: 0), another what", (x, n) -> x.best(n[0]), NONE, of(0), 0, 0, 3);
        range(19, "1 or 0; NONE: no such set", (x, n) -> x.kept(n[0]), NONE, of(0), 0, 0, LandAtWork.SETS - 1);
        Call base = (x, n) -> x.base(n[0], n[1], n[2], n[3]);
        range(20, "NoSuchElementException: none such", base, THROWN, of(0, 0, 0, 0), 0, 0, LandAtWork.SETS - 1);
        cell(20, "NoSuchElementException: none such", base, THROWN, of(3, 11, 7, 1), 1);
        range(20, "NoSuchElementException: none such", base, THROWN, of(0, 0, 0, 0), 3, 0, 1);
    }

    private static void askedOfCells() {
        Call lies = (x, n) -> x.lies(n[0], n[1], n[2]);
        cell(21, "NONE: no such CELL, depth", lies, NONE, of(0, 0, 0), 0);
        range(21, "What MAY LIE at a depth (0 to 2000)", lies, NONE, of(5, 5, 0), 2, 0, 2000);
        Call line = (x, n) -> x.line(n[0], n[1], n[2]);
        range(22, "LINE between a CELL and a neighbour (0 left .. 3 below); NONE: none such", line, NONE, of(5, 0, 0), 0, 1, 11);
        range(22, "LINE between a CELL and a neighbour (0 left .. 3 below); NONE: none such", line, NONE, of(5, 0, 1), 0, 0, 10);
        range(22, "LINE between a CELL and a neighbour (0 left .. 3 below); NONE: none such", line, NONE, of(0, 5, 2), 1, 1, 7);
        range(22, "LINE between a CELL and a neighbour (0 left .. 3 below); NONE: none such", line, NONE, of(0, 5, 3), 1, 0, 6);
        range(22, "LINE between a CELL and a neighbour (0 left .. 3 below); NONE: none such", line, NONE, of(0, 3, 2), 0, 0, 11);
        range(22, "LINE between a CELL and a neighbour (0 left .. 3 below); NONE: none such", line, NONE, of(3, 0, 0), 1, 0, 7);
        range(22, "LINE between a CELL and a neighbour (0 left .. 3 below); NONE: none such", line, NONE, of(5, 5, 0), 2, 0, 3);
        Call deep = (x, n) -> x.deep(n[0], n[1], n[2], n[3]);
        cell(23, "NoSuchElementException: none such", deep, THROWN, of(0, 0, 0, 0), 0);
        range(23, "NoSuchElementException: none such", deep, THROWN, of(5, 5, 0, 0), 2, 0, 2);
        range(23, "what 0: from, 1: to", deep, THROWN, of(5, 5, 0, 0), 3, 0, 1);
        Call water = (x, n) -> x.water(n[0], n[1], n[2]);
        cell(24, "NONE: none such", water, NONE, of(0, 0, 0), 0);
        range(24, "what 0: from, 1: to", water, NONE, of(5, 5, 0), 2, 0, 1);
        Call seam = (x, n) -> x.seam(n[0], n[1], n[2]);
        range(25, "NONE: none such", seam, NONE, of(0, 0, 0), 0, 0, 2);
        range(25, "NONE: none such", seam, NONE, of(0, 0, 0), 1, 0, 3);
        range(25, "what 0: from, 1: to", seam, NONE, of(0, 0, 0), 2, 0, 1);
    }

    private static void askedOfSheets() {
        Call sheet = (x, n) -> x.sheet(n[0], n[1], n[2], n[3]);
        cell(26, "NONE: CELLS off THE LAND, from behind to", sheet, NONE, of(0, 0, 11, 7), 0);
        cell(26, "NONE: CELLS off THE LAND, from behind to", sheet, NONE, of(0, 0, 11, 7), 2);
        range(26, "NONE: CELLS off THE LAND, from behind to", sheet, NONE, of(0, 0, 4, 3), 0, 0, 4);
        range(26, "NONE: CELLS off THE LAND, from behind to", sheet, NONE, of(0, 0, 4, 3), 1, 0, 3);
        range(26, "NONE: CELLS off THE LAND, from behind to", sheet, NONE, of(4, 3, 11, 7), 2, 4, 11);
        range(26, "NONE: CELLS off THE LAND, from behind to", sheet, NONE, of(4, 3, 11, 7), 3, 3, 7);
        Call drawn = (x, n) -> x.drawn(n[0], n[1], n[2]);
        range(27, "NONE: none such, it is not of it", drawn, NONE, of(0, 3, 3), 0, 0, 1);
        cell(27, "NONE: none such, it is not of it", drawn, NONE, of(0, 0, 0), 1);
        range(27, "NONE: none such, it is not of it", drawn, NONE, of(1, 3, 3), 1, 2, 6);
        range(27, "NONE: none such, it is not of it", drawn, NONE, of(1, 3, 3), 2, 2, 6);
        Call quarrel = (x, n) -> x.quarrel(n[0], n[1]);
        range(28, "QUARREL; NONE: no such SHEETS", quarrel, NONE, of(0, 0), 0, 0, 1);
        range(28, "QUARREL; NONE: no such SHEETS", quarrel, NONE, of(0, 0), 1, 0, 1);
        range(29, "STALE; NONE: no such SHEET", (x, n) -> x.stale(n[0]), NONE, of(0), 0, 0, 1);
        Call doubles = (x, n) -> x.doubles(n[0], n[1], n[2]);
        range(30, "NONE: none such, the same", doubles, NONE, of(1, 0, 0), 0, 1, 5);
        range(30, "NONE: none such, the same", doubles, NONE, of(0, 1, 0), 1, 1, 5);
        range(30, "NONE: none such, the same", doubles, NONE, of(0, 5, 0), 0, 0, 4);
        range(30, "NONE: none such, the same", doubles, NONE, of(5, 0, 0), 1, 0, 4);
        range(30, "Of two HANDS, what 0: DOUBLES, 1: ALIKE", doubles, NONE, of(2, 3, 0), 2, 0, 1);
        range(31, "NoSuchElementException: no such HAND", (x, n) -> x.habit(n[0]), THROWN, of(0), 0, 0, 5);
    }

    private static void planned() {
        Call question = (x, n) -> x.question(n[0], n[1], n[2] != 0) ? 1 : 0;
        cell(32, "false: none such", question, FALSE, of(0, 0, 1), 0);
        cell(32, "false: none such", question, FALSE, of(0, 0, 0), 0);
        Call place = (x, n) -> x.place(n[0], n[1], n[2]);
        cell(33, "NONE: no such CELL, cost", place, NONE, of(0, 0, 1), 0);
        range(33, "NONE: no such CELL, cost", place, NONE, of(0, 0, 1), 2, 1, 99);
        range(35, "NONE: none such", (x, n) -> x.left(n[0]), NONE, of(0), 0, 0, 1);
        range(37, "NONE for another what", (x, n) -> x.count(n[0]), NONE, of(0), 0, 0, 12);
    }
}
