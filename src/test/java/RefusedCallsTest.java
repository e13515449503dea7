import java.util.List;
import java.util.NoSuchElementException;

/** What stands behind "false:", "NONE:", "-1:" and "NoSuchElementException:" because of what was told before. */
public final class RefusedCallsTest {
    private static final Check CHECK = new Check();
    private static final Sentences DOC = new Sentences("refused calls", CHECK);
    private static final int NONE = -1;
    private static final int FALSE = 0;
    private static final int THROWN = LandAtWork.THROWN;
    private static final String PLAIN = "rock a 0 to 0; name a when 1; ";

    private RefusedCallsTest() {
    }

    public static void main(String[] args) {
        days();
        sights();
        tapeAndRules();
        breaks();
        looks();
        grounds();
        cells();
        sheets();
        plans();
        counts();
        DOC.test(1, "What it is", "An object is used for at most 512 calls after it has been made", RefusedCallsTest::fullLand);
        DOC.end();
    }

    /** Holds for a call that is refused: it answers so each time, and nothing is otherwise behind it. */
    private static void refused(String what, LandSurvey x, int due, Check.Call call) {
        List<Integer> before = LandAtWork.seen(x);
        CHECK.same(what, LandAtWork.answer(call), due);
        CHECK.same(what + ", again", LandAtWork.answer(call), due);
        CHECK.yes(what + " changes nothing", LandAtWork.seen(x).equals(before));
    }

    private static int flag(boolean answer) {
        return answer ? 1 : 0;
    }

    private static void days() {
        DOC.test(2, "NONE for another n, beyond 9999", () -> {
            LandSurvey x = LandAtWork.make();
            for (int n = 0; n < 9; n++) {
                x.days(1000);
            }
            x.days(996);
            CHECK.same("the last day", x.count(0), 9999);
            refused("one day more", x, NONE, () -> x.days(1));
            LandSurvey y = LandAtWork.make();
            for (int n = 0; n < 9; n++) {
                y.days(1000);
            }
            refused("one too many of 997", y, NONE, () -> y.days(997));
            CHECK.same("996", y.days(996), 9999);
        });
        DOC.test(3, "false: a DAY behind NOW, below 0", () -> {
            LandSurvey x = LandAtWork.make();
            refused("the day behind now", x, FALSE, () -> flag(x.view(4)));
            x.view(2);
            refused("the day behind now, whatever the view", x, FALSE, () -> flag(x.view(4)));
            refused("below 0, whatever the view", x, FALSE, () -> flag(x.view(-1)));
            CHECK.same("as it was", x.count(1), 2);
        });
    }

    private static void sights() {
        DOC.test(7, "the CELL is covered (kind 0)", () -> {
            LandSurvey x = LandAtWork.make();
            x.cell(4, 4, 500, false);
            refused("covered", x, NONE, () -> x.sight(0, 4, 4, 0, 0, 0));
            for (int kind = 1; kind <= 4; kind++) {
                CHECK.same("of other kinds", x.sight(kind, 4, 4, 0, 0, 0), LandAtWork.SIGHTS + kind - 1);
            }
        });
        DOC.test(7, "40 are there", () -> {
            LandSurvey x = LandAtWork.make();
            for (int k = LandAtWork.SIGHTS; k < 40; k++) {
                CHECK.same("sight " + k, x.sight(2, 4, 4, 100, 0, 9000), k);
            }
            refused("one too many", x, NONE, () -> x.sight(2, 4, 4, 100, 0, 9000));
            refused("one too many, seen", x, NONE, () -> x.sight(0, 4, 4, 0, 0, 0));
        });
        DOC.test(7, "(facts: 1000 * colour + 100 * grain + 10 * hard + fizz)", () -> {
            LandSurvey x = Check.with("rock a 0 to 0; name a when colour = 1 and grain = 2 and hard = 3 and fizz = 4;");
            x.sight(2, 0, 0, 0, 0, 1234);
            x.sight(2, 0, 0, 0, 0, 4321);
            CHECK.same("1234", x.look(0, 0), 0);
            CHECK.same("4321", x.look(1, 0), NONE);
        });
        DOC.test(8, "false: no such SIGHT, other numbers, it has one", () -> {
            LandSurvey x = LandAtWork.make();
            refused("it has one", x, FALSE, () -> flag(x.dip(0, 1, 2, 3)));
            refused("it has one, to another side", x, FALSE, () -> flag(x.dip(0, 3, 0, 0)));
            CHECK.yes("a withdrawn one has none", x.dip(5, 0, 0, 0));
            CHECK.no("it has one now", x.dip(5, 0, 0, 0));
            CHECK.yes("a doubted one has none", x.dip(4, 0, 0, 0));
            LandSurvey none = new LandSurvey();
            CHECK.no("no sight at all", none.dip(0, 0, 0, 0));
        });
        DOC.test(9, "false: no such SIGHT, other number, it has one", () -> {
            LandSurvey x = LandAtWork.make();
            refused("it has one", x, FALSE, () -> flag(x.remain(0, 2, false)));
            refused("it has one, washed in", x, FALSE, () -> flag(x.remain(0, 2, true)));
            refused("it has one, another", x, FALSE, () -> flag(x.remain(0, 5, false)));
            CHECK.yes("a withdrawn one has none", x.remain(5, 0, false));
            CHECK.no("it has one now", x.remain(5, 0, false));
            LandSurvey none = new LandSurvey();
            CHECK.no("no sight at all", none.remain(0, 0, false));
        });
        DOC.test(10, "false: none such, it is", () -> {
            LandSurvey x = LandAtWork.make();
            refused("it is", x, FALSE, () -> flag(x.withdraw(5)));
            x.view(0);
            refused("it is, though not in the view", x, FALSE, () -> flag(x.withdraw(5)));
            refused("none such", x, FALSE, () -> flag(x.withdraw(LandAtWork.SIGHTS)));
            LandSurvey none = new LandSurvey();
            CHECK.no("no sight at all", none.withdraw(0));
        });
    }

    private static void tapeAndRules() {
        DOC.test(11, "Up to 24 signs come behind the TAPE", () -> {
            LandSurvey x = new LandSurvey();
            long eight = 0x2020202020202020L;
            CHECK.same("24", x.feed(eight, eight, eight), 24);
            CHECK.same("behind", x.feed(eight, 0, eight), 40);
            CHECK.same("none", x.feed(0, 0, 0), 40);
            CHECK.same("one", x.feed(0, 32, 0), 41);
        });
        DOC.test(11, "the bytes of a, b, c, of each the highest first", () -> {
            for (int place = 0; place < 24; place++) {
                long[] three = {0x2020202020202020L, 0x2020202020202020L, 0x2020202020202020L};
                int shift = 56 - 8 * (place % 8);
                three[place / 8] = three[place / 8] & ~(255L << shift) | 42L << shift;
                LandSurvey x = new LandSurvey();
                CHECK.same("fed", x.feed(three[0], three[1], three[2]), 24);
                CHECK.same("byte " + place, x.rules(), 1 + 16 * place);
            }
        });
        DOC.test(11, "others than 10 and 32 .. 126, and what is beyond 1,500, are left out: how many there are", () -> {
            LandSurvey x = new LandSurvey();
            long[] far = {Long.MIN_VALUE, Long.MAX_VALUE, -1L, 0L, Long.MIN_VALUE + 1, 0x7f7f7f7f7f7f7f7fL, 0x1f1f1f1f1f1f1f1fL,
                0x0909090909090909L, 0x0b0b0b0b0b0b0b0bL, 0x8080808080808080L, 0xa0a0a0a0a0a0a0a0L};
            for (long a : far) {
                CHECK.same("none of " + Long.toHexString(a), x.feed(a, a, a), 0);
            }
            CHECK.same("one among them", x.feed(-1L, 0xff0aff00ff7fff1fL, Long.MAX_VALUE), 1);
            CHECK.same("the greatest sign", x.feed(0x7e, 0, 0), 2);
            CHECK.same("the least ones", x.feed(0x0a, 0x20, 0), 4);
        });
        DOC.test(12, "The TAPE is read as RULES: 0; its FAULT", () -> {
            LandSurvey x = LandAtWork.make();
            CHECK.same("what was on it", x.rules(), 1 + 16 * 7);
            CHECK.same("as they were", x.count(4), 3);
            CHECK.same("empty", x.count(9), 0);
            CHECK.same("an empty one", x.rules(), 0);
            CHECK.same("no rock", x.count(4), 0);
        });
        DOC.test(12, "-1: those of 8 DAYS are there", () -> {
            LandSurvey x = new LandSurvey();
            for (int day = 0; day < 8; day++) {
                CHECK.same("day " + day, Check.rules(x, PLAIN), 0);
                x.days(day < 7 ? 1 : 0);
            }
            CHECK.same("the eighth day again", Check.rules(x, PLAIN), 0);
            x.days(1);
            refused("those of 8 days are there", x, NONE, x::rules);
            refused("those of 8 days are there", x, NONE, () -> Check.rules(x, "steep 5;"));
        });
    }

    private static void breaks() {
        DOC.test(13, "4 are there", () -> {
            LandSurvey x = LandAtWork.make();
            CHECK.same("the third", x.fault(8, 0, true, 8, 0, 0, 99), 2);
            CHECK.same("the fourth", x.fault(9, 0, true, 8, 0, 0, 99), 3);
            refused("one too many", x, NONE, () -> x.fault(0, 0, true, 1, 0, 0, 1));
            CHECK.same("all sets", x.cost(15), x.cost(0) + 5 + 7 + 99 + 99);
        });
        DOC.test(13, "A BREAK more (down: yes, across: no): its number", () -> {
            LandSurvey x = new LandSurvey();
            CHECK.same("down from the last line", x.fault(0, 7, true, 1, 0, 0, 1), 0);
            CHECK.same("across from the last line", x.fault(0, 7, false, 1, 0, 0, 1), NONE);
            CHECK.same("across from the last column", x.fault(11, 0, false, 1, 0, 0, 1), 1);
            CHECK.same("down from the last column", x.fault(11, 0, true, 1, 0, 0, 1), NONE);
        });
        DOC.test(14, "false: another one", () -> {
            LandSurvey x = LandAtWork.make();
            refused("1000", x, FALSE, () -> flag(x.rivalry(1000)));
            refused("-1", x, FALSE, () -> flag(x.rivalry(-1)));
        });
    }

    private static void looks() {
        DOC.test(15, "5, 6, 7 of one that says nothing", () -> {
            LandSurvey x = LandAtWork.make();
            CHECK.same("one without a rock", x.sight(2, 0, 0, 0, 0, 9000), LandAtWork.SIGHTS);
            x.view(0);
            x.days(1);
            for (int what = 5; what <= 7; what++) {
                int asked = what;
                refused("not told yet", x, THROWN, () -> x.look(LandAtWork.SIGHTS, asked));
                x.view(4);
                refused("without a rock", x, THROWN, () -> x.look(LandAtWork.SIGHTS, asked));
                CHECK.same("withdrawn", LandAtWork.answer(() -> x.look(5, asked)), THROWN);
                CHECK.no("doubted ones say something", LandAtWork.answer(() -> x.look(4, asked)) == THROWN);
                x.view(0);
                CHECK.no("not withdrawn yet", LandAtWork.answer(() -> x.look(5, asked)) == THROWN);
            }
        });
        DOC.test(15, "its ROCK by THE RULES, in THE VIEW or not (NONE)", () -> {
            LandSurvey x = LandAtWork.make();
            x.sight(2, 0, 0, 0, 0, 1000);
            x.sight(2, 0, 0, 0, 0, 9000);
            CHECK.same("withdrawn", x.look(5, 0), 2);
            x.view(0);
            CHECK.same("not told yet", x.look(6, 0), 1);
            CHECK.same("not told yet, says nothing", x.look(6, 2), 0);
            CHECK.same("none", x.look(7, 0), NONE);
        });
        DOC.test(15, "1 if it is doubted in THE BEST, else 0", () -> {
            LandSurvey x = LandAtWork.make();
            CHECK.same("doubted", x.look(4, 4), 1);
            CHECK.same("not doubted", x.look(0, 4), 0);
            CHECK.same("withdrawn", x.look(5, 4), 0);
            LandSurvey none = LandAtWork.makeWithoutGround();
            for (int k = 0; k < none.count(2); k++) {
                CHECK.same("there is no best", none.look(k, 4), 0);
            }
        });
        DOC.test(15, "(the how manieth name, rank or draw line, from 0)", () -> {
            LandSurvey x = Check.with("rank 5 when 1; draw full when 1; rock a 0 to 0; rank 6 when 1; name a when colour; name a when 1;");
            x.sight(2, 0, 0, 0, 0, 1000);
            x.sight(2, 0, 0, 0, 0, 0);
            CHECK.same("behind three others", x.look(0, 7), 3);
            CHECK.same("behind four others", x.look(1, 7), 4);
        });
    }

    private static void grounds() {
        DOC.test(16, "NONE: no such set, none", () -> {
            LandSurvey x = LandAtWork.makeWithoutGround();
            for (int set = 0; set < LandAtWork.SETS; set++) {
                CHECK.same("no ground of " + set, x.cost(set), NONE);
            }
            CHECK.same("no such set", x.cost(LandAtWork.SETS), NONE);
            LandSurvey none = new LandSurvey();
            CHECK.same("without breaks", none.cost(0), 0);
            CHECK.same("without breaks", none.cost(1), NONE);
        });
        DOC.test(17, "NONE: none such", () -> {
            LandSurvey x = LandAtWork.make();
            CHECK.same("the first", x.doubted(3, 0), 4);
            CHECK.same("no second", x.doubted(3, 1), NONE);
            LandSurvey y = LandAtWork.makeWithoutGround();
            CHECK.same("no ground", y.doubted(0, 0), NONE);
            CHECK.same("nothing is doubted", new LandSurvey().doubted(0, 0), NONE);
        });
        DOC.test(18, "NONE: there is none (3: 0), another what", () -> {
            LandSurvey x = LandAtWork.makeWithoutGround();
            int[] due = {NONE, NONE, NONE, 0, NONE};
            for (int what = 0; what < due.length; what++) {
                CHECK.same("what " + what, x.best(what), due[what]);
            }
            CHECK.same("what -1", x.best(-1), NONE);
        });
        DOC.test(19, "Whether the GROUND of a set of BREAKS is KEPT: 1 or 0; NONE: no such set", () -> {
            LandSurvey x = LandAtWork.makeWithoutGround();
            CHECK.same("nothing is kept", x.kept(0), 0);
            CHECK.same("nothing is kept", x.kept(LandAtWork.SETS - 1), 0);
            CHECK.same("no such set", x.kept(LandAtWork.SETS), NONE);
            LandSurvey none = new LandSurvey();
            CHECK.same("without breaks", none.kept(0), 1);
            CHECK.same("without breaks", none.kept(1), NONE);
        });
        DOC.test(20, "NoSuchElementException: none such, no GROUND, unknown", () -> {
            LandSurvey x = LandAtWork.makeWithoutGround();
            for (int set = 0; set < LandAtWork.SETS; set++) {
                int asked = set;
                CHECK.none("no ground", () -> x.base(asked, 0, 0, 0));
            }
            LandSurvey y = LandAtWork.makeUnknownInOne();
            CHECK.none("unknown", () -> y.base(0, 4, 4, 0));
            CHECK.none("unknown", () -> y.base(0, 4, 4, 1));
            CHECK.same("known", y.base(1, 4, 4, 1), 400);
            CHECK.none("a new one", () -> new LandSurvey().base(0, 0, 0, 0));
        });
    }

    private static void cells() {
        DOC.test(21, "nothing is KEPT", () -> {
            LandSurvey x = LandAtWork.makeWithoutGround();
            CHECK.same("at 0", x.lies(0, 0, 0), NONE);
            CHECK.same("at 2000", x.lies(11, 7, 2000), NONE);
        });
        DOC.test(22, "nothing is KEPT", () -> {
            LandSurvey x = LandAtWork.makeWithoutGround();
            for (int where = 0; where < 4; where++) {
                CHECK.same("to " + where, x.line(5, 5, where), NONE);
            }
        });
        DOC.test(23, "nothing is KEPT, unknown in one of them", () -> {
            LandSurvey x = LandAtWork.makeWithoutGround();
            CHECK.none("nothing is kept", () -> x.deep(0, 0, 0, 0));
            LandSurvey y = LandAtWork.makeUnknownInOne();
            CHECK.none("unknown in the best", () -> y.deep(4, 4, 0, 0));
            y.rivalry(1);
            CHECK.none("unknown in one of two", () -> y.deep(4, 4, 0, 1));
            y.sight(2, 9, 7, 100, 0, 0);
            CHECK.same("both are kept", y.best(3), 2);
            CHECK.same("known in all", y.deep(9, 7, 1, 1), 500 - 391 - 9);
        });
        DOC.test(24, "NONE: none such, none, nothing is KEPT, unknown in one of them", () -> {
            LandSurvey x = LandAtWork.makeWithoutGround();
            CHECK.same("nothing is kept", x.water(0, 0, 0), NONE);
            LandSurvey y = LandAtWork.makeUnknownInOne();
            CHECK.same("unknown in the best", y.water(4, 4, 0), NONE);
            y.rivalry(1);
            CHECK.same("unknown in one of two", y.water(4, 4, 1), NONE);
            LandSurvey z = LandAtWork.make();
            CHECK.yes("some", z.water(6, 6, 0) >= 0);
            z.fold(6, 6, true);
            CHECK.same("none", z.water(6, 6, 0), NONE);
            CHECK.same("none", z.water(6, 6, 1), NONE);
        });
        DOC.test(25, "nothing is KEPT, unknown in one of them", () -> {
            LandSurvey x = LandAtWork.makeWithoutGround();
            CHECK.same("nothing is kept", x.seam(0, 0, 0), NONE);
            LandSurvey y = LandAtWork.makeUnknownInOne();
            CHECK.same("unknown in the best", y.seam(0, 0, 0), NONE);
            y.rivalry(1);
            CHECK.same("unknown in one of two", y.seam(0, 0, 1), NONE);
            LandSurvey z = new LandSurvey();
            CHECK.same("no rock", z.seam(0, 0, 0), NONE);
        });
    }

    private static void sheets() {
        DOC.test(26, "nothing is KEPT, 10 are there", () -> {
            LandSurvey x = LandAtWork.makeWithoutGround();
            refused("nothing is kept", x, NONE, () -> x.sheet(0, 0, 11, 7));
            LandSurvey y = LandAtWork.make();
            for (int k = 2; k < 10; k++) {
                CHECK.same("sheet " + k, y.sheet(0, 0, 0, 0), k);
            }
            refused("10 are there", y, NONE, () -> y.sheet(0, 0, 0, 0));
        });
        DOC.test(27, "What a SHEET has for a CELL; NONE: none such, it is not of it", () -> {
            LandSurvey x = LandAtWork.makeWithoutGround();
            CHECK.yes("though nothing is kept", x.drawn(0, 0, 0) >= 0);
            CHECK.same("not of it", x.drawn(1, 0, 0), NONE);
            CHECK.same("not of it", x.drawn(1, 7, 6), NONE);
            CHECK.same("not of it", x.drawn(1, 6, 7), NONE);
            CHECK.same("no sheet", new LandSurvey().drawn(0, 0, 0), NONE);
        });
        DOC.test(28, "QUARREL; NONE: no such SHEETS", () -> {
            LandSurvey x = LandAtWork.makeWithoutGround();
            CHECK.same("though nothing is kept", x.quarrel(0, 1), 0);
            CHECK.same("one such alone", x.quarrel(1, 2), NONE);
            CHECK.same("one such alone", x.quarrel(2, 1), NONE);
            CHECK.same("neither", x.quarrel(2, 2), NONE);
            CHECK.same("no sheet", new LandSurvey().quarrel(0, 0), NONE);
        });
        DOC.test(29, "STALE; NONE: no such SHEET, nothing is KEPT", () -> {
            LandSurvey x = LandAtWork.makeWithoutGround();
            CHECK.same("nothing is kept", x.stale(0), NONE);
            x.view(0);
            CHECK.yes("some are kept in another view", x.stale(0) >= 0);
            CHECK.same("fresh", LandAtWork.make().stale(0), 0);
            CHECK.same("no sheet", new LandSurvey().stale(0), NONE);
        });
        DOC.test(30, "NONE: none such, the same", () -> {
            LandSurvey x = LandAtWork.make();
            for (int hand = 0; hand <= 5; hand++) {
                CHECK.same("the same, " + hand, x.doubles(hand, hand, 0), NONE);
                CHECK.same("the same, " + hand, x.doubles(hand, hand, 1), NONE);
            }
            CHECK.same("others", x.doubles(2, 3, 0), 1);
            CHECK.same("not alike", x.doubles(2, 3, 1), 0);
        });
        DOC.test(31, "HABIT. NoSuchElementException: no such HAND", () -> {
            LandSurvey x = new LandSurvey();
            CHECK.same("the first", x.habit(0), 0);
            CHECK.same("the last", x.habit(5), 0);
            CHECK.none("one more", () -> x.habit(6));
            CHECK.none("one less", () -> x.habit(-1));
            CHECK.same("what it throws", thrownBy(() -> x.habit(6)), 1);
        });
    }

    private static int thrownBy(Check.Call call) {
        try {
            call.answer();
        } catch (RuntimeException e) {
            return e.getClass() == NoSuchElementException.class ? 1 : 2;
        }
        return 0;
    }

    private static void plans() {
        DOC.test(32, "false: none such, 8 are", () -> {
            LandSurvey x = LandAtWork.make();
            for (int k = 2; k < 8; k++) {
                CHECK.yes("question " + k, x.question(k, 0, true));
            }
            refused("8 are", x, FALSE, () -> flag(x.question(11, 7, true)));
            CHECK.yes("none", x.question(11, 7, false));
            CHECK.yes("one of the eight is none", x.question(2, 2, false));
            CHECK.yes("another is one", x.question(11, 7, true));
            refused("8 are again", x, FALSE, () -> flag(x.question(2, 2, true)));
        });
        DOC.test(33, "A PLACE more: its number; NONE: no such CELL, cost, 8 are there", () -> {
            LandSurvey x = LandAtWork.make();
            for (int k = 2; k < 8; k++) {
                CHECK.same("place " + k, x.place(0, 0, 99), k);
            }
            refused("8 are there", x, NONE, () -> x.place(0, 0, 1));
            refused("8 are there, another", x, NONE, () -> x.place(11, 7, 99));
        });
        DOC.test(34, "DOUBT; NONE: there is no BEST, unknown", () -> {
            CHECK.same("there is no best", LandAtWork.makeWithoutGround().doubt(), NONE);
            CHECK.same("unknown", LandAtWork.makeUnknownInOne().doubt(), NONE);
            CHECK.same("a new one", new LandSurvey().doubt(), NONE);
            CHECK.yes("known", LandAtWork.make().doubt() > 0);
        });
        DOC.test(35, "NONE: none such, there is no BEST, unknown", () -> {
            CHECK.same("there is no best", LandAtWork.makeWithoutGround().left(0), NONE);
            CHECK.same("unknown", LandAtWork.makeUnknownInOne().left(0), NONE);
            CHECK.same("none such", LandAtWork.makeUnknownInOne().left(1), NONE);
            CHECK.same("a new one", new LandSurvey().left(0), NONE);
            CHECK.yes("known", LandAtWork.make().left(0) >= 0);
        });
        DOC.test(36, "NEXT; NONE: none", () -> {
            CHECK.same("there is no best", LandAtWork.makeWithoutGround().next(), NONE);
            CHECK.same("unknown", LandAtWork.makeUnknownInOne().next(), NONE);
            CHECK.same("a new one", new LandSurvey().next(), NONE);
            LandSurvey x = LandAtWork.make();
            CHECK.yes("one of two", x.next() >= 0 && x.next() < 2);
            x.question(2, 2, false);
            x.question(8, 6, false);
            CHECK.same("nothing is above 0", x.next(), NONE);
        });
    }

    /** All that a land holds, told in 509 calls; the last three of the 512 are asked of it. */
    private static void fullLand() {
        LandSurvey x = new LandSurvey();
        int calls = 0;
        for (int n = 0; n < 8; n++) {
            x.days(n == 0 ? 0 : 1);
            Check.feed(x, "rock a 0 to 9;name a when 1;steep 9;");
            calls += 1 + 1 + 2 + 1;
            CHECK.same("rules of day " + n, x.rules(), 0);
        }
        for (int k = 0; k < 40; k++) {
            x.sight(2, k % 12, k / 12, 100, k % 6, 0);
            x.dip(k, 1, 0, 9);
            x.remain(k, k % 10, false);
            calls += 3;
        }
        for (int k = 0; k < 4; k++) {
            x.fault(k, 0, true, 8, -9, 9, 99);
            calls++;
        }
        for (int k = 0; k < 10; k++) {
            x.sheet(0, 0, 11, 7);
            x.question(k, 7, true);
            x.place(k, 6, 99);
            calls += 3;
        }
        for (int cell = 0; cell < 96; cell++) {
            x.own(cell % 12, cell / 12, 3);
            x.cell(cell % 12, cell / 12, 600, false);
            calls += 2;
        }
        Check.feed(x, " ".repeat(1490));
        calls += 1 + 63;
        for (; calls < 496; calls++) {
            CHECK.same("now", x.count(0), 7);
        }
        int[] due = {7, 7, 40, 40, 1, 4, 10, 0, 8, 1490, 96, 8, 8};
        for (int what = 0; what < due.length; what++) {
            CHECK.same("count " + what, x.count(what), due[what]);
            calls++;
        }
        CHECK.same("calls so far", calls, 509);
        CHECK.same("the seam under all", x.seam(0, 3, 1), 96 * 9);
        CHECK.same("all are kept", x.best(1), 0);
        CHECK.same("the last of 512", x.stale(9), 0);
    }

    private static void counts() {
        DOC.test(37, "CELLS of which one thing alone MAY LIE at depth 0 (0 if nothing is KEPT)", () -> {
            LandSurvey x = Check.with("rock a 0 to 200; name a when 1; steep 0;");
            x.sight(2, 0, 0, 0, 0, 0);
            CHECK.same("a alone, or above", x.count(10), 0);
            x.sight(2, 1, 0, 200, 0, 0);
            CHECK.same("base 300, all may be above", x.count(10), 0);
            LandSurvey y = Check.with("rock a 200 to 200; name a when 1; steep 0;");
            y.sight(2, 0, 0, 0, 0, 0);
            y.sight(2, 1, 0, 200, 0, 0);
            CHECK.same("a all over", y.count(10), 96);
            y.cell(5, 5, 501, true);
            CHECK.same("above all is one thing", y.count(10), 96);
            for (int k = 2; k < 6; k++) {
                y.sight(2, 9, 6, 150 * k, 0, 0);
            }
            CHECK.same("nothing is kept", y.count(10), 0);
            CHECK.same("unknown", new LandSurvey().count(10), 0);
        });
        DOC.test(37, "SIGHTS that say something in which AGES QUARREL", () -> {
            LandSurvey x = LandAtWork.make();
            CHECK.same("one", x.count(7), 1);
            x.withdraw(0);
            CHECK.same("withdrawn", x.count(7), 0);
            CHECK.same("it does all the same", x.look(0, 3), 1);
            x.view(2);
            CHECK.same("not withdrawn yet", x.count(7), 1);
        });
        DOC.test(37, "2: SIGHTS, 3: those that say something", () -> {
            LandSurvey x = LandAtWork.make();
            CHECK.same("all", x.count(2), LandAtWork.SIGHTS);
            CHECK.same("but the withdrawn one", x.count(3), LandAtWork.SIGHTS - 1);
            x.view(0);
            CHECK.same("all", x.count(2), LandAtWork.SIGHTS);
            CHECK.same("not withdrawn yet", x.count(3), LandAtWork.SIGHTS);
        });
    }
}
