import java.lang.reflect.InvocationTargetException;
import java.lang.reflect.Method;
import java.lang.reflect.Modifier;
import java.util.Arrays;
import java.util.Comparator;
import java.util.Random;

/**
 * Every method with any arguments in any state: none throws, and all answers are the model's. The
 * arguments are mostly ones at the ends of what the document names, or of what an int can be.
 */
public final class AnyArgumentsTest {
    private static final int RUNS = 200;
    private static final int CALLS = 512;
    private static final int[] EDGES = {
        Integer.MIN_VALUE, Integer.MIN_VALUE + 1, -10001, -10000, -300, -2, -1, 0, 1, 2, 3, 4, 5, 6, 7, 8, 9, 10, 11, 18, 19, 20, 21,
        31, 32, 33, 49, 50, 51, 98, 99, 100, 101, 255, 256, 299, 300, 301, 999, 1000, 1980, 1981, 2000, 2001, 9999, 10000,
        Integer.MAX_VALUE - 300, Integer.MAX_VALUE - 1, Integer.MAX_VALUE,
    };
    private static final String[] TEXTS = {
        "",
        "stair 1; pilgrim a 0 4 0 99 0 kneels;",
        "stair 9; pilgrim a 0 2 1 3 5 kneels; pilgrim b 2 1 2 2 3; pilgrim c 5 2 0 9 1 kneels; moves = knees - doubt + oiled; oil 2;",
        "pilgrim a 99 4 9 99 99 kneels; pilgrim b 0 0 0 1 0 kneels; moves = 9999 * 9999 * minute / (step - sore); has = borne / (9 - step);",
        "stair 99; pilgrim a 1 4 0 9 1 kneels; pilgrim b 1 3 1 8 1; pilgrim c 1 2 2 7 2; pilgrim d 9 1 3 6 2 kneels; pilgrim e 9 0 4 5 3;"
            + " pilgrim f 9 4 5 4 3; pilgrim g 20 3 6 3 4 kneels; pilgrim h 98 2 7 2 4; moves = if minute < 5 then knees else 1 - on / 3;"
            + " has = step - sore * 2; oil 9;",
    };

    private final Random random;
    private final KneeStair stair = new KneeStair();
    private final Model model = new Model();

    private AnyArgumentsTest(long seed) {
        random = new Random(seed);
    }

    private static Method[] face() {
        Method[] face = Arrays.stream(KneeStair.class.getDeclaredMethods())
            .filter(m -> Modifier.isPublic(m.getModifiers())).toArray(Method[]::new);
        Arrays.sort(face, Comparator.comparing(Method::getName));
        return face;
    }

    private Object[] arguments(Method method) {
        Class<?>[] types = method.getParameterTypes();
        Object[] arguments = new Object[types.length];
        boolean wild = random.nextInt(3) == 0;
        for (int i = 0; i < types.length; i++) {
            if (types[i] == boolean.class) {
                arguments[i] = random.nextBoolean();
            } else {
                arguments[i] = wild ? EDGES[random.nextInt(EDGES.length)] : random.nextInt(10) - 1;
            }
        }
        return arguments;
    }

    private void readOneOfTheTexts() {
        byte[] text = Check.bytes(TEXTS[random.nextInt(TEXTS.length)]);
        stair.back(stair.count(7));
        model.back(model.count(7));
        for (int from = 0; from < text.length; from += 20) {
            int a = Check.word(text, from);
            int b = Check.word(text, from + 4);
            int c = Check.word(text, from + 8);
            int d = Check.word(text, from + 12);
            int e = Check.word(text, from + 16);
            stair.feed(a, b, c, d, e);
            model.feed(a, b, c, d, e);
        }
        stair.read();
        model.read();
    }

    private static long call(Object object, Method face, Object[] arguments) throws ReflectiveOperationException {
        Method method = object.getClass().getDeclaredMethod(face.getName(), face.getParameterTypes());
        Object answer = method.invoke(object, arguments);
        return answer instanceof Boolean yes ? (yes ? 1 : 0) : (Integer) answer;
    }

    private void oneCall(Check check, Method face) throws ReflectiveOperationException {
        Object[] arguments = arguments(face);
        String name = face.getName() + Arrays.toString(arguments);
        try {
            check.due(name, call(stair, face, arguments), call(model, face, arguments));
        } catch (InvocationTargetException e) {
            check.due(name + " threw " + e.getCause(), true, false);
        }
    }

    /** Behind its 512th call an object may answer what it likes, but it still may not throw. */
    private void farBeyond(Check check, Method[] face) throws ReflectiveOperationException {
        for (int i = 0; i < 3000; i++) {
            stair.run(300);
        }
        for (Method method : face) {
            Object[] arguments = arguments(method);
            try {
                call(stair, method, arguments);
            } catch (InvocationTargetException e) {
                check.due(method.getName() + Arrays.toString(arguments) + " threw " + e.getCause(), true, false);
            }
        }
    }

    public static void main(String[] args) throws ReflectiveOperationException {
        Check check = new Check();
        Method[] face = face();
        for (long seed = 1; seed <= RUNS; seed++) {
            AnyArgumentsTest run = new AnyArgumentsTest(seed);
            check.about("seed " + seed);
            for (int i = 0; i < CALLS; i++) {
                if (i % 32 == 0) {
                    run.readOneOfTheTexts();
                }
                run.oneCall(check, face[run.random.nextInt(face.length)]);
            }
            if (seed % 40 == 0) {
                run.farBeyond(check, face);
            }
        }
        check.end();
    }
}
