import java.util.ArrayList;
import java.util.List;
import java.util.NoSuchElementException;

/** A land on which something of everything is told, and what can be seen of it by asking. */
final class LandAtWork {
    /** What stands for a call that throws NoSuchElementException; no call answers it. */
    static final int THROWN = -1_234_567_890;

    static final int SIGHTS = 6;
    static final int SETS = 4;

    private LandAtWork() {
    }

    /** Sight 4 is doubted, 5 withdrawn; sight 0 has a dip and a remain; all is known in all four grounds, which are kept. */
    static LandSurvey make() {
        LandSurvey x = Check.with("rock a 10 to 20; rock b 5 to 8; rock c 30 to 40; name a when colour = 0; name b when colour = 1;"
            + "name c when colour = 2; rank 4 when hand = 3; steep 3; drift 3; holds a; tight b; remain 2 from a to b;");
        x.sight(2, 0, 0, 100, 0, 2000);
        x.sight(2, 3, 3, 90, 1, 1000);
        x.sight(3, 7, 7, 95, 3, 2000);
        x.sight(4, 7, 7, 95, 2, 0);
        x.sight(2, 5, 5, 400, 3, 0);
        x.sight(2, 5, 5, 100, 0, 2000);
        x.dip(0, 1, 2, 3);
        x.remain(0, 2, false);
        x.days(3);
        x.withdraw(5);
        x.fault(3, 0, true, 8, -10, 10, 5);
        x.fault(0, 4, false, 12, -5, 5, 7);
        x.rivalry(20);
        x.own(0, 0, 0);
        x.own(5, 5, 1);
        x.own(6, 6, 3);
        x.sheet(0, 0, 11, 7);
        x.sheet(2, 2, 6, 6);
        x.question(2, 2, true);
        x.question(8, 6, true);
        x.place(3, 2, 4);
        x.place(9, 1, 7);
        x.feed(0x7374656570203500L, 0, 0);
        return x;
    }

    /** A land like that on which no ground holds, so that nothing is kept. */
    static LandSurvey makeWithoutGround() {
        LandSurvey x = make();
        for (int depth = 500; depth <= 900; depth += 100) {
            x.sight(2, 0, 0, depth, 0, 0);
        }
        return x;
    }

    /** One sight, whose own dip can't be: it is doubted, and nothing is known without the break. */
    static LandSurvey makeUnknownInOne() {
        LandSurvey x = Check.with("rock a 9 to 9; rock b 9 to 9; name b when 1; holds a; tight b; steep 1;");
        x.sight(2, 4, 4, 100, 0, 0);
        x.dip(0, 1, 50, 3);
        x.fault(4, 4, true, 1, 0, 3, 11);
        x.own(4, 4, 0);
        x.place(4, 4, 1);
        x.question(4, 4, true);
        return x;
    }

    static int answer(Check.Call call) {
        try {
            return call.answer();
        } catch (NoSuchElementException e) {
            return THROWN;
        }
    }

    /** All that a land tells, within 220 calls. */
    static List<Integer> seen(LandSurvey x) {
        List<Integer> all = new ArrayList<>();
        for (Check.Call question : questions(x)) {
            all.add(answer(question));
        }
        return all;
    }

    static List<Check.Call> questions(LandSurvey x) {
        List<Check.Call> all = new ArrayList<>();
        for (int what = 0; what <= 12; what++) {
            int asked = what;
            all.add(() -> x.count(asked));
        }
        for (int k = 0; k <= SIGHTS; k++) {
            for (int what = 0; what < 8; what++) {
                int sight = k;
                int asked = what;
                all.add(() -> x.look(sight, asked));
            }
        }
        ofGrounds(x, all);
        underCells(x, all);
        ofTheRest(x, all);
        return all;
    }

    private static void ofGrounds(LandSurvey x, List<Check.Call> all) {
        for (int n = 0; n <= SETS; n++) {
            int set = n;
            all.add(() -> x.cost(set));
            all.add(() -> x.kept(set));
            all.add(() -> x.doubted(set, 0));
            all.add(() -> x.doubted(set, 1));
            all.add(() -> x.base(set, 9, 1, 0));
            all.add(() -> x.base(set, 9, 1, 1));
        }
        for (int n = 0; n < 4; n++) {
            int what = n;
            all.add(() -> x.best(what));
        }
    }

    private static void underCells(LandSurvey x, List<Check.Call> all) {
        for (int n = 0; n < 5; n++) {
            int column = n * 11 / 4;
            int line = n * 7 / 4;
            int where = n < 4 ? 1 : 0;
            for (int k = 0; k < 2; k++) {
                int what = k;
                all.add(() -> x.base(0, column, line, what));
                all.add(() -> x.deep(column, line, 1, what));
                all.add(() -> x.water(column, line, what));
                all.add(() -> x.lies(column, line, 40 * what));
            }
            all.add(() -> x.line(column, line, where));
        }
        for (int n = 0; n < 4; n++) {
            int owner = n;
            all.add(() -> x.seam(0, owner, 0));
            all.add(() -> x.seam(2, owner, 1));
        }
    }

    private static void ofTheRest(LandSurvey x, List<Check.Call> all) {
        for (int n = 0; n < 3; n++) {
            int number = n;
            all.add(() -> x.drawn(number, 0, 0));
            all.add(() -> x.drawn(number, 4, 4));
            all.add(() -> x.stale(number));
            all.add(() -> x.quarrel(0, number));
            all.add(() -> x.left(number));
        }
        for (int n = 0; n < 6; n++) {
            int hand = n;
            all.add(() -> x.habit(hand));
            all.add(() -> x.doubles(hand, (hand + 1) % 6, 0));
        }
        all.add(x::doubt);
        all.add(x::next);
    }
}
