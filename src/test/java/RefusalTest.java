import java.lang.reflect.InvocationTargetException;
import java.lang.reflect.Method;
import java.util.Arrays;
import java.util.Comparator;
import java.util.List;
import java.util.function.Supplier;

/** Whatever is asked: a call throws but what the document lists for it, and changes nothing then. */
public final class RefusalTest {
    private static final Check CHECK = new Check("RefusalTest");
    private static final List<Supplier<Popupwright>> BOOKS = List.of(
            Books::none, Books::empty, Books::three, Books::rich, Books::torn, Books::full);
    private static final int[] ODD = {
        Integer.MIN_VALUE, Integer.MIN_VALUE + 1, -401, -65, -3, -2, -1, 0, 1, 2, 3, 10, 24, 25, 29, 30, 48, 49, 50,
        95, 96, 97, 99, 100, 400, 401, 511, 2000, 65536, Integer.MAX_VALUE - 1, Integer.MAX_VALUE
    };
    private static long seed = 1;

    public static void main(String[] args) throws IllegalAccessException {
        Method[] methods = Popupwright.class.getDeclaredMethods();
        Arrays.sort(methods, Comparator.comparing(Method::getName));
        for (Supplier<Popupwright> book : BOOKS) {
            String unchanged = Probe.of(book.get());
            for (Method method : methods) {
                for (int n = 0; n < 60 && (method.getModifiers() & 1) != 0; n++) {
                    ask(book.get(), method, unchanged);
                }
            }
        }
        CHECK.end();
    }

    private static int draw(int bound) {
        seed = seed * 6364136223846793005L + 1442695040888963407L;
        return (int) ((seed >>> 33) % bound);
    }

    private static void ask(Popupwright w, Method method, String unchanged) throws IllegalAccessException {
        Object[] args = new Object[method.getParameterCount()];
        for (int n = 0; n < args.length; n++) {
            args[n] = odd(method.getParameterTypes()[n]);
        }
        String call = w.folds() + " folds: " + method.getName() + Arrays.toString(args);
        try {
            method.invoke(w, args);
            CHECK.yes(call, w.isSound());
        } catch (InvocationTargetException thrown) {
            Class<?> got = thrown.getCause().getClass();
            CHECK.yes(call + " threw " + got + ":", List.of(method.getExceptionTypes()).contains(got));
            CHECK.yes(call + " changed nothing:", Probe.of(w).equals(unchanged));
        }
    }

    private static Object odd(Class<?> type) {
        if (type == boolean.class) {
            return draw(2) == 0;
        }
        if (type == char.class) {
            return "sxyzSXY\0".charAt(draw(8));
        }
        return draw(2) == 0 ? draw(40) : ODD[draw(ODD.length)];
    }
}
