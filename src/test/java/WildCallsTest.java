import java.lang.reflect.InvocationTargetException;
import java.lang.reflect.Method;
import java.lang.reflect.Modifier;
import java.util.ArrayList;
import java.util.Arrays;
import java.util.Comparator;
import java.util.List;
import java.util.NoSuchElementException;
import java.util.Random;
import java.util.Set;

/** Calls of any kind with any numbers, in any state: nothing is thrown but what the document tells. The seed is fixed. */
public final class WildCallsTest {
    private static final int CALLS = 512;
    private static final Set<String> THROWING = Set.of("look", "base", "deep", "habit");
    private static final String[] SCRAPS = {"rock ", "a ", "b ", "0 to 5;", "to ", "name a when ", "1", "not ", "(", ")", "and ",
        "or ", ";", "rank 5 when ", "draw full when ", "steep 5;", "drift 7;", "holds a;", "tight b;", "remain 1 from a to b;",
        "colour", "<", "=", "+", "-", "kept ", "12345", "~"};
    private static final Check CHECK = new Check();
    private static final Random RANDOM = new Random(11);

    private WildCallsTest() {
    }

    public static void main(String[] args) throws IllegalAccessException {
        List<Method> face = new ArrayList<>();
        for (Method method : LandSurvey.class.getDeclaredMethods()) {
            if (Modifier.isPublic(method.getModifiers())) {
                face.add(method);
            }
        }
        face.sort(Comparator.comparing(Method::getName));
        int runs = args.length > 0 ? Integer.parseInt(args[0]) : 200;
        for (int n = 0; n < runs; n++) {
            LandSurvey survey = new LandSurvey();
            for (int k = 0; k < CALLS; k++) {
                if (RANDOM.nextInt(6) == 0) {
                    tellRules(survey);
                }
                call(survey, face.get(RANDOM.nextInt(face.size())));
            }
        }
        CHECK.end("wild calls");
    }

    private static void tellRules(LandSurvey survey) {
        if (RANDOM.nextInt(3) > 0) {
            Check.rules(survey, "rock a 0 to 9; rock b 3 to 4; name a when colour < 5; name b when 1;");
            return;
        }
        StringBuilder text = new StringBuilder();
        for (int n = RANDOM.nextInt(30); n > 0; n--) {
            text.append(SCRAPS[RANDOM.nextInt(SCRAPS.length)]);
        }
        Check.feed(survey, text.toString());
    }

    private static int number() {
        return switch (RANDOM.nextInt(12)) {
            case 0 -> Integer.MIN_VALUE;
            case 1 -> Integer.MAX_VALUE;
            case 2 -> -1;
            case 3 -> RANDOM.nextInt();
            case 4 -> RANDOM.nextInt(1200) - 100;
            case 5 -> RANDOM.nextInt(100);
            default -> RANDOM.nextInt(12);
        };
    }

    private static Object value(Class<?> type) {
        if (type == int.class) {
            return number();
        }
        return type == boolean.class ? (Object) RANDOM.nextBoolean() : (Object) RANDOM.nextLong();
    }

    private static void call(LandSurvey survey, Method method) throws IllegalAccessException {
        Class<?>[] types = method.getParameterTypes();
        Object[] values = new Object[types.length];
        for (int k = 0; k < types.length; k++) {
            values[k] = value(types[k]);
        }
        boolean asDue = true;
        try {
            method.invoke(survey, values);
        } catch (InvocationTargetException e) {
            asDue = e.getCause() instanceof NoSuchElementException && THROWING.contains(method.getName());
        }
        CHECK.yes(method.getName() + Arrays.toString(values) + " throws nothing else", asDue);
    }
}
