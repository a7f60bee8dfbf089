import java.lang.reflect.InvocationTargetException;
import java.lang.reflect.Method;
import java.lang.reflect.Modifier;
import java.util.ArrayList;
import java.util.Arrays;
import java.util.Comparator;
import java.util.List;

/**
 * An object answers as the oracle for all of the 512 calls it is used for, whatever they are: numbers near the edges of what
 * is taken, and far from them. Behind these no call throws.
 */
public final class LifetimeTest {
    private static final int OBJECTS = 400;
    private static final int CALLS = 512;
    private static final int[] NEAR = {-2, -1, 0, 1, 2, 3, 4, 5, 7, 8, 9, 10, 11, 12, 13, 14, 15, 16, 17, 20, 29, 30, 31, 38, 39, 40};
    private static final int[] FAR = {Integer.MIN_VALUE, Integer.MIN_VALUE + 1, -65536, -33, -32, 32, 33, 63, 64, 99, 100, 101,
        255, 256, 999, 1000, 1001, 1580, 1581, 1600, 1601, 65535, 65536, 99999, 100000, 100001, 0x7FFF0000, Integer.MAX_VALUE - 1,
        Integer.MAX_VALUE};
    private static final Bench bench = new Bench();

    private static int calls;
    private static String last = "";

    public static void main(String[] args) throws ReflectiveOperationException {
        List<Method> face = face();
        bench.due("methods", face.size(), 50);
        for (int n = 0; n < OBJECTS && bench.wrong() < 20; n++) {
            Texts texts = new Texts(9000000 + n);
            FlipCover x = new FlipCover();
            Oracle y = new Oracle();
            calls = 0;
            last = "";
            while (calls < CALLS && bench.wrong() < 20) {
                if (calls % 170 == 0) {
                    feed(texts, x, y, texts.pick(8) == 0 ? 4 : texts.pick(4));
                }
                Method method = face.get(texts.pick(face.size()));
                // the oracle goes through all sets of tests, which takes long for sixteen of them
                boolean isSearch = "least cheapest more killers".contains(method.getName());
                if (!isSearch || y.about(0) < 4) {
                    call(n, method, numbers(texts, method), x, y);
                }
            }
            for (int more = 0; more < 50; more++) {
                Method method = face.get(texts.pick(face.size()));
                bench.due("behind 512 calls " + method.getName() + " throws", throwsBy(x, method, numbers(texts, method)), false);
            }
        }
        bench.end("LifetimeTest");
    }

    private static List<Method> face() {
        List<Method> face = new ArrayList<>();
        for (Method method : FlipCover.class.getDeclaredMethods()) {
            if (Modifier.isPublic(method.getModifiers())) {
                face.add(method);
            }
        }
        // getDeclaredMethods has no order of its own
        face.sort(Comparator.comparing(Method::getName));
        return face;
    }

    private static int number(Texts texts, int tests) {
        switch (texts.pick(12)) {
            case 0:
                return FAR[texts.pick(FAR.length)];
            case 1:
            case 2:
                return NEAR[texts.pick(NEAR.length)];
            case 3:
                return tests - 1 + texts.pick(2);
            default:
                return texts.pick(4);
        }
    }

    private static Object[] numbers(Texts texts, Method method) {
        Object[] args = new Object[method.getParameterCount()];
        int tests = 1 << texts.pick(5);
        for (int i = 0; i < args.length; i++) {
            boolean isNumber = method.getParameterTypes()[i] == int.class;
            args[i] = isNumber ? (Object) number(texts, tests) : (Object) (texts.pick(2) == 0);
        }
        if (method.getName().equals("covers") && texts.pick(4) > 0) {
            args[0] = texts.pick(1 << Math.min(tests, 17));
        }
        return args;
    }

    private static void call(int n, Method method, Object[] args, FlipCover x, Oracle y) throws ReflectiveOperationException {
        if (calls >= CALLS) {
            return;
        }
        calls++;
        Method oracles = Oracle.class.getDeclaredMethod(method.getName(), method.getParameterTypes());
        String call = method.getName() + Arrays.toString(args);
        last = last.length() > 600 ? last.substring(last.length() - 600) + " " + call : last + " " + call;
        bench.due("object " + n + ", call " + calls + ", .." + last, answer(method.invoke(x, args)), answer(oracles.invoke(y, args)));
    }

    private static long answer(Object answer) {
        return answer instanceof Boolean is ? is ? 1 : 0 : ((Integer) answer).longValue();
    }

    /** Feeds a text and reads it, call by call. */
    private static void feed(Texts texts, FlipCover x, Oracle y, int conditions) throws ReflectiveOperationException {
        List<String> tokens = texts.tokens(conditions);
        if (texts.pick(5) == 0) {
            texts.spoil(tokens);
        }
        String text = texts.joined(tokens);
        Class<?> number = int.class;
        Method feed = FlipCover.class.getMethod("feed", number, number, number, number, number);
        call(0, FlipCover.class.getMethod("end", number), new Object[] {0}, x, y);
        for (int at = 0; at < text.length(); at += 20) {
            Object[] args = new Object[5];
            for (int i = 0; i < 5; i++) {
                args[i] = Bench.four(text, at + 4 * i);
            }
            call(0, feed, args, x, y);
        }
        call(0, FlipCover.class.getMethod("end", number), new Object[] {text.length()}, x, y);
        call(0, FlipCover.class.getMethod("decision"), new Object[0], x, y);
        call(0, FlipCover.class.getMethod("fault", number), new Object[] {1}, x, y);
    }

    private static boolean throwsBy(FlipCover x, Method method, Object[] args) throws IllegalAccessException {
        try {
            method.invoke(x, args);
            return false;
        } catch (InvocationTargetException thrown) {
            System.out.println(method.getName() + " " + Arrays.toString(args) + ": " + thrown.getCause());
            return true;
        }
    }
}
