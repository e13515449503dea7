import java.io.IOException;
import java.nio.file.Files;
import java.nio.file.Path;

/**
 * Tests that each name a part of the document (a promise, the terms, a section) and the sentence of it that
 * they hold the class to. A sentence that does not stand in that part is wrong itself, so that the tests
 * are looked at again when the document changes.
 */
final class Sentences {
    private static final Path DOCUMENT = Path.of("../shared/DOC.md");

    private final String name;
    private final Check check;
    private final String document;
    private int tests;

    interface Body {
        void run();
    }

    Sentences(String name, Check check) {
        this.name = name;
        this.check = check;
        this.document = read();
    }

    /** Without the document at hand the tests hold all the same; only the words can't be looked up. */
    private static String read() {
        try {
            return flat(Files.readString(DOCUMENT));
        } catch (IOException e) {
            System.out.println("no document at " + DOCUMENT + ": the sentences were not looked up");
            return "";
        }
    }

    private static String flat(String text) {
        return text.replaceAll("\\s+", " ");
    }

    private String between(String from, String to) {
        int start = document.indexOf(from);
        int end = document.indexOf(to, start + from.length());
        return start < 0 ? "" : document.substring(start, end < 0 ? document.length() : end);
    }

    private String part(String where) {
        switch (where) {
            case "What it is": return between("## What it is", "## The public face");
            case "Terms": return between("## Terms", "==== 2.");
            case "2 RULES": return between("==== 2.", "==== 3.");
            case "3 GROUNDS": return between("==== 3.", "==== 4.");
            case "4 SHEETS": return between("==== 4.", "The constants:");
            default: return between("## " + where + ":", " ## ");
        }
    }

    /** A sentence of the promise itself. */
    void test(int promise, String sentence, Body body) {
        test(promise, "Promise " + promise, sentence, body);
    }

    /** A sentence of a part that the promise rests on. */
    void test(int promise, String where, String sentence, Body body) {
        tests++;
        String named = "Promise " + promise;
        check.head((where.equals(named) ? named : named + ", " + where) + ", \"" + sentence + "\": ");
        check.yes("that it stands there", document.isEmpty() || part(where).contains(flat(sentence)));
        int asked = check.asked();
        try {
            body.run();
        } catch (RuntimeException e) {
            check.same("what nothing should throw: " + e, 1, 0);
        }
        check.yes("that anything was asked", check.asked() > asked);
        check.head("");
    }

    void end() {
        check.end(name + ", " + tests + " tests");
    }
}
