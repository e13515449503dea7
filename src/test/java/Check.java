import java.util.NoSuchElementException;

/** Counts what is not as due, and tells the rules of a text to a survey by feed. */
final class Check {
    private String heading = "";
    private int wrong;
    private int asked;

    interface Call {
        int answer();
    }

    /** What stands ahead of each wrong answer from here on. */
    void head(String text) {
        heading = text;
    }

    int asked() {
        return asked;
    }

    void same(String what, long got, long due) {
        asked++;
        if (got != due) {
            wrong++;
            System.out.println(heading + what + " answered " + got + ", due is " + due);
        }
    }

    void yes(String what, boolean got) {
        same(what, got ? 1 : 0, 1);
    }

    void no(String what, boolean got) {
        same(what, got ? 1 : 0, 0);
    }

    void none(String what, Call call) {
        int thrown = 0;
        try {
            call.answer();
        } catch (NoSuchElementException e) {
            thrown = 1;
        }
        same(what + " throws", thrown, 1);
    }

    void end(String name) {
        System.out.println(name + ": " + (asked - wrong) + " of " + asked + " answers are as due");
        if (wrong != 0 || asked == 0) {
            System.exit(1);
        }
    }

    static int feed(LandSurvey survey, String text) {
        int length = survey.count(9);
        for (int at = 0; at < text.length(); at += 24) {
            length = survey.feed(eight(text, at), eight(text, at + 8), eight(text, at + 16));
        }
        return length;
    }

    static int rules(LandSurvey survey, String text) {
        feed(survey, text);
        return survey.rules();
    }

    static LandSurvey with(String text) {
        LandSurvey survey = new LandSurvey();
        if (rules(survey, text) != 0) {
            throw new IllegalStateException("the test's own rules are at fault: " + text);
        }
        return survey;
    }

    static long eight(String text, int at) {
        long packed = 0;
        for (int k = at; k < at + 8; k++) {
            packed = packed << 8 | (k < text.length() ? text.charAt(k) & 255 : 0);
        }
        return packed;
    }
}
