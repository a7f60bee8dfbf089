import java.lang.reflect.InvocationTargetException;
import java.lang.reflect.Method;
import java.lang.reflect.Modifier;
import java.util.ArrayList;
import java.util.Comparator;
import java.util.List;

/** No call throws, whatever its numbers are and whatever stands on the tape. */
public final class EndureTest {
    private static final int OBJECTS = 3000;
    private static final int CALLS = 200;
    private static final int[] NUMBERS = {Integer.MIN_VALUE, Integer.MIN_VALUE + 1, -65536, -33, -32, -2, -1, 0, 0, 0, 1, 1,
        1, 2, 2, 3, 4, 5, 7, 8, 9, 10, 15, 16, 17, 29, 30, 31, 32, 33, 38, 39, 40, 41, 63, 64, 999, 1000, 1001, 65535, 65536,
        100000, 0x28282828, 0x3B3B3B3B, Integer.MAX_VALUE - 1, Integer.MAX_VALUE};
    private static final Bench bench = new Bench();

    public static void main(String[] args) throws IllegalAccessException {
        fullTapes();
        List<Method> face = face();
        for (int n = 0; n < OBJECTS; n++) {
            Texts texts = new Texts(5000000 + n);
            FlipCover x = new FlipCover();
            for (int call = 0; call < CALLS; call++) {
                if (call % 50 == 0) {
                    Bench.put(x, texts.joined(texts.tokens(texts.pick(6))));
                    x.decision();
                }
                Method method = face.get(texts.pick(face.size()));
                bench.due(method.getName() + " throws", throwsBy(x, method, texts), false);
            }
        }
        bench.end("EndureTest");
    }

    private static List<Method> face() {
        List<Method> face = new ArrayList<>();
        for (Method method : FlipCover.class.getDeclaredMethods()) {
            if (Modifier.isPublic(method.getModifiers())) {
                face.add(method);
            }
        }
        // getDeclaredMethods has no order of its own
        face.sort(Comparator.comparing(Method::getName));
        return face;
    }

    private static boolean throwsBy(FlipCover x, Method method, Texts texts) throws IllegalAccessException {
        Object[] args = new Object[method.getParameterCount()];
        for (int i = 0; i < args.length; i++) {
            int number = NUMBERS[texts.pick(NUMBERS.length)];
            args[i] = method.getParameterTypes()[i] == int.class ? (Object) number : (Object) (number > 2);
        }
        try {
            method.invoke(x, args);
            return false;
        } catch (InvocationTargetException thrown) {
            System.out.println(method.getName() + " " + List.of(args) + ": " + thrown.getCause());
            return true;
        }
    }

    /** Texts that fill the tape with as many tokens as can be. */
    private static void fullTapes() {
        fault(";".repeat(1600), 2, 0);
        fault("$".repeat(1600), 1, 0);
        fault("goal " + "(".repeat(1595), 2, 12);
        fault("costs" + "(".repeat(1595), 2, 12);
        fault("goal " + "not ".repeat(398) + "not", 2, 33);
        fault("costs(" + "1+".repeat(797), 2, 64);
        fault("goal(" + "true and ".repeat(177) + "or", 2, 95);
        fault("x".repeat(1600), 1, 0);
        fault("1".repeat(1600), 1, 0);
        fault("cond a" + " ".repeat(1594), 2, 1600);
        fault("loses 0" + "\n".repeat(1592) + ";", 0, -1);
        fault("loses 0" + "\n".repeat(1592) + "$", 1, 1599);
    }

    private static void fault(String text, int sort, int place) {
        FlipCover x = Bench.of(text);
        bench.due("5: " + text.substring(0, 8) + " .. fault", x.fault(0), sort);
        bench.due("5: " + text.substring(0, 8) + " .. place", x.fault(1), place);
    }
}
