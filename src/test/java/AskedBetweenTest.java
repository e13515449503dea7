import java.util.List;

/** Asking changes nothing: not what is asked next, and not what is told next. */
public final class AskedBetweenTest {
    private static final Check CHECK = new Check();

    private interface Telling {
        void tell(LandSurvey x);
    }

    private AskedBetweenTest() {
    }

    public static void main(String[] args) {
        askedAheadOfEachQuestion();
        days();
        cells();
        sights();
        rules();
        breaks();
        plans();
        CHECK.end("asked between");
    }

    /** One question stands ahead of each of the others, within 512 calls. */
    private static void askedAheadOfEachQuestion() {
        List<Integer> due = LandAtWork.seen(LandAtWork.make());
        CHECK.yes("few enough", 40 + 2 * due.size() <= 512);
        for (int ahead = 0; ahead < due.size(); ahead++) {
            List<Check.Call> questions = LandAtWork.questions(LandAtWork.make());
            for (int n = 0; n < due.size(); n++) {
                LandAtWork.answer(questions.get(ahead));
                CHECK.same("question " + n + " behind " + ahead, LandAtWork.answer(questions.get(n)), due.get(n));
            }
        }
    }

    /** What is told counts at once, whether all was asked ahead of it or nothing was. */
    private static void countsAtOnce(String what, Telling telling) {
        LandSurvey asked = LandAtWork.make();
        List<Integer> before = LandAtWork.seen(asked);
        telling.tell(asked);
        List<Integer> after = LandAtWork.seen(asked);
        LandSurvey silent = LandAtWork.make();
        telling.tell(silent);
        CHECK.yes(what + " counts at once", LandAtWork.seen(silent).equals(after));
        CHECK.no(what + " changes something", before.equals(after));
    }

    private static void days() {
        countsAtOnce("days", x -> x.days(5));
        countsAtOnce("view", x -> x.view(0));
        countsAtOnce("view and back", x -> {
            x.view(0);
            LandAtWork.answer(() -> x.best(0));
            x.view(3);
            x.days(1);
        });
    }

    private static void cells() {
        countsAtOnce("cell", x -> x.cell(3, 3, 507, true));
        countsAtOnce("cell of a sight", x -> x.cell(7, 7, 498, false));
        countsAtOnce("fold", x -> x.fold(7, 7, true));
        countsAtOnce("own", x -> x.own(4, 4, 2));
        countsAtOnce("own no more", x -> x.own(5, 5, LandSurvey.NONE));
    }

    private static void sights() {
        countsAtOnce("sight", x -> x.sight(2, 11, 0, 100, 5, 2000));
        countsAtOnce("sight that can't be", x -> x.sight(2, 0, 0, 300, 5, 2000));
        countsAtOnce("dip", x -> x.dip(2, 2, 3, 0));
        countsAtOnce("dip that can't be", x -> x.dip(2, 2, 99, 0));
        countsAtOnce("remain", x -> x.remain(2, 2, false));
        countsAtOnce("withdraw", x -> x.withdraw(4));
        countsAtOnce("withdraw", x -> x.withdraw(0));
    }

    private static void rules() {
        countsAtOnce("feed", x -> x.feed(32, 32, 32));
        countsAtOnce("a fault", LandSurvey::rules);
        countsAtOnce("rules of another day", x -> {
            x.rules();
            Check.rules(x, "rock a 1 to 2; rock b 3 to 4; name b when 1; steep 9;");
        });
        countsAtOnce("rules of the same day", x -> {
            x.rules();
            Check.rules(x, "rock a 1 to 2;");
            LandAtWork.seen(x);
            Check.rules(x, "rock a 1 to 2; rock b 3 to 4; name a when kept = 0; name b when 1; rank 7 when agree = 0; rank 8 when 1;");
        });
    }

    private static void breaks() {
        countsAtOnce("fault", x -> x.fault(8, 0, true, 8, -50, 50, 2));
        countsAtOnce("rivalry", x -> x.rivalry(0));
        countsAtOnce("rivalry", x -> x.rivalry(5));
    }

    private static void plans() {
        countsAtOnce("sheet", x -> x.sheet(0, 0, 4, 4));
        countsAtOnce("question", x -> x.question(5, 5, true));
        countsAtOnce("question no more", x -> x.question(2, 2, false));
        countsAtOnce("place", x -> x.place(2, 2, 1));
    }
}
