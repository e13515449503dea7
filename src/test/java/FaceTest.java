import java.io.IOException;
import java.lang.reflect.Constructor;
import java.lang.reflect.Field;
import java.lang.reflect.Method;
import java.lang.reflect.Modifier;
import java.nio.file.Files;
import java.nio.file.Path;
import java.util.ArrayList;
import java.util.Arrays;
import java.util.List;
import java.util.Set;
import java.util.TreeSet;
import java.util.regex.Matcher;
import java.util.regex.Pattern;

/** The public face of the class, and those rules of LANGUAGE.md that can be seen from outside. */
public final class FaceTest {
    private static final Check CHECK = new Check();
    private static final String[] FACE = {
        "int days(int)", "boolean view(int)", "boolean cell(int,int,int,boolean)", "boolean fold(int,int,boolean)",
        "boolean own(int,int,int)", "int sight(int,int,int,int,int,int)", "boolean dip(int,int,int,int)",
        "boolean remain(int,int,boolean)", "boolean withdraw(int)", "int feed(long,long,long)", "int rules()",
        "int fault(int,int,boolean,int,int,int,int)", "boolean rivalry(int)", "int look(int,int)", "int cost(int)",
        "int doubted(int,int)", "int best(int)", "int kept(int)", "int base(int,int,int,int)", "int lies(int,int,int)",
        "int line(int,int,int)", "int deep(int,int,int,int)", "int water(int,int,int)", "int seam(int,int,int)",
        "int sheet(int,int,int,int)", "int drawn(int,int,int)", "int quarrel(int,int)", "int stale(int)",
        "int doubles(int,int,int)", "int habit(int)", "boolean question(int,int,boolean)", "int place(int,int,int)",
        "int doubt()", "int left(int)", "int next()", "int count(int)"};

    private FaceTest() {
    }

    public static void main(String[] args) throws IOException {
        face();
        document();
        hidden();
        inside();
        text(Files.readString(Path.of("src/main/java/LandSurvey.java")));
        CHECK.end("face");
    }

    private static String written(Method method) {
        List<String> types = new ArrayList<>();
        for (Class<?> type : method.getParameterTypes()) {
            types.add(type.getSimpleName());
        }
        return method.getReturnType().getSimpleName() + " " + method.getName() + "(" + String.join(",", types) + ")";
    }

    private static void face() {
        Set<String> found = new TreeSet<>();
        for (Method method : LandSurvey.class.getDeclaredMethods()) {
            if (Modifier.isPublic(method.getModifiers())) {
                found.add(written(method));
                boolean throwing = Set.of("look", "base", "deep", "habit").contains(method.getName());
                CHECK.same("exceptions of " + method.getName(), method.getExceptionTypes().length, throwing ? 1 : 0);
            }
        }
        CHECK.yes("the face: " + found, found.equals(new TreeSet<>(Arrays.asList(FACE))));
        CHECK.yes("public and final", LandSurvey.class.getModifiers() == (Modifier.PUBLIC | Modifier.FINAL));
        Constructor<?>[] made = LandSurvey.class.getDeclaredConstructors();
        CHECK.yes("one constructor", made.length == 1 && Modifier.isPublic(made[0].getModifiers()));
        CHECK.same("without parameters", made[0].getParameterCount(), 0);
    }

    /** FACE is written out above, so that it holds without the document; here it is held against it. */
    private static void document() throws IOException {
        Path path = Path.of("../shared/DOC.md");
        if (!Files.isReadable(path)) {
            System.out.println("no document at " + path + ": the face was not held against it");
            return;
        }
        String text = Files.readString(path);
        Matcher told = Pattern.compile("    public (\\w+ \\w+)\\(([^)]*)\\)( throws NoSuchElementException)?;").matcher(text);
        Set<String> found = new TreeSet<>();
        while (told.find()) {
            found.add(told.group(1) + "(" + told.group(2).replaceAll("(\\w+) \\w+(, )?", "$1,").replaceAll(",$", "") + ")");
        }
        CHECK.yes("the face of the document: " + found, found.equals(new TreeSet<>(Arrays.asList(FACE))));
        CHECK.yes("its constant", text.contains("public static final int NONE = -1;") && LandSurvey.NONE == -1);
        CHECK.yes("its constructor", text.contains("    public LandSurvey();"));
    }

    private static void hidden() {
        Set<String> names = new TreeSet<>();
        for (String method : FACE) {
            names.add(method.substring(method.indexOf(' ') + 1, method.indexOf('(')));
        }
        for (Method method : LandSurvey.class.getDeclaredMethods()) {
            if (!Modifier.isPublic(method.getModifiers())) {
                CHECK.yes(method.getName() + " is private", Modifier.isPrivate(method.getModifiers()));
                CHECK.no(method.getName() + " bears a public name", names.contains(method.getName()));
            }
        }
        for (Field field : LandSurvey.class.getDeclaredFields()) {
            boolean constant = field.getName().equals("NONE") && Modifier.isPublic(field.getModifiers());
            CHECK.yes(field.getName() + " is private", constant || Modifier.isPrivate(field.getModifiers()));
        }
        for (Class<?> inner : LandSurvey.class.getDeclaredClasses()) {
            for (Method method : inner.getDeclaredMethods()) {
                CHECK.no(inner + "." + method.getName() + " bears a public name", names.contains(method.getName()));
            }
        }
    }

    private static void inside() {
        List<Class<?>> all = new ArrayList<>(Arrays.asList(LandSurvey.class.getDeclaredClasses()));
        all.add(LandSurvey.class);
        CHECK.yes("at most twelve classes", all.size() <= 12);
        for (Class<?> type : all) {
            CHECK.yes(type + " is static", type == LandSurvey.class || Modifier.isStatic(type.getModifiers()));
            int fields = 0;
            for (Field field : type.getDeclaredFields()) {
                boolean fixed = Modifier.isStatic(field.getModifiers());
                fields += fixed ? 0 : 1;
                CHECK.yes(type + "." + field.getName() + " is final", !fixed || Modifier.isFinal(field.getModifiers()));
            }
            CHECK.yes(type + " has at most twenty fields", fields <= 20);
            for (Method method : type.getDeclaredMethods()) {
                CHECK.yes(method + " takes at most seven", method.getParameterCount() <= 7);
            }
        }
    }

    private static void text(String source) {
        String[] banned = {"->", "::", "try", "catch", "finally", "synchronized", "assert", "static {", "System.", "package",
            "Object", "HashMap", "String.format", "Exact", "throw new Null", "double ", "float ", "var ", "record", "yield"};
        String code = source.replaceAll("(?s)/\\*.*?\\*/", "").replaceAll("//[^\n]*", "");
        for (String word : banned) {
            CHECK.no("the text has " + word, code.contains(word));
        }
        Matcher imports = Pattern.compile("import ([\\w.]+);").matcher(code);
        while (imports.find()) {
            CHECK.yes(imports.group(1), Set.of("java.util.Arrays", "java.util.NoSuchElementException").contains(imports.group(1)));
        }
        Matcher thrown = Pattern.compile("throw (.*);").matcher(code);
        while (thrown.find()) {
            CHECK.yes("throws as told", thrown.group(1).equals("new NoSuchElementException()"));
        }
        for (char sign : source.toCharArray()) {
            if (sign != '\n' && (sign < 32 || sign > 126)) {
                CHECK.same("a sign of the text", sign, ' ');
            }
        }
        methodLengths(code.split("\n"));
    }

    private static void methodLengths(String[] lines) {
        int from = -1;
        for (int n = 0; n < lines.length; n++) {
            boolean opens = lines[n].matches("( {4}| {8})[a-zA-Z].*\\) (throws \\w+ )?\\{");
            from = opens ? n : from;
            if (from >= 0 && lines[n].equals(lines[from].replaceAll("\\S.*", "") + "}")) {
                CHECK.yes(lines[from] + " has at most sixty lines", n - from <= 60);
                from = -1;
            }
        }
    }
}
