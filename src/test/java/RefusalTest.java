import java.lang.reflect.InvocationTargetException;
import java.lang.reflect.Method;
import java.util.Arrays;
import java.util.Comparator;
import java.util.List;

/** Whatever is asked: a call throws but what the document lists for it, and changes nothing then. */
public final class RefusalTest {
    private static final Check CHECK = new Check("RefusalTest");
    private static final int[] ODD = {
        Integer.MIN_VALUE, Integer.MIN_VALUE + 1, -401, -65, -3, -2, -1, 0, 1, 2, 3, 10, 24, 25, 29, 30, 48, 49, 50,
        95, 96, 97, 99, 100, 400, 401, 511, 2000, 65536, Integer.MAX_VALUE - 1, Integer.MAX_VALUE
    };
    private static long seed = 1;

    public static void main(String[] args) throws IllegalAccessException {
        Method[] methods = Popupwright.class.getDeclaredMethods();
        Arrays.sort(methods, Comparator.comparing(Method::getName));
        for (int book = 0; book < 6; book++) {
            for (Method method : methods) {
                for (int n = 0; n < 60 && (method.getModifiers() & 1) != 0; n++) {
                    ask(book, method);
                }
            }
        }
        CHECK.end();
    }

    private static int draw(int bound) {
        seed = seed * 6364136223846793005L + 1442695040888963407L;
        return (int) ((seed >>> 33) % bound);
    }

    private static Popupwright book(int which) {
        if (which == 0) {
            return new Popupwright();
        }
        Popupwright w = which < 4 ? SpreadTest.three() : SpreadTest.row(which == 4 ? 24 : 23);
        if (which > 1) {
            w.arm(0, true, 5, w.orderAt(0) == 0 && which < 4 ? 10 : 0, which < 4 ? 70 : 1);
            w.picture(0, 0, 10, which < 4 ? 10 : 0, which < 4 ? 20 : 1, 5);
            w.picture(0, 5, 15, which < 4 ? 10 : 0, which < 4 ? 20 : 1, 6);
            w.flap(1);
            w.pull(0, 0, 10, 4);
            w.pull(1, 0, 10, 4);
            w.join(0, 1);
        }
        if (which == 3) {
            w.open(18, 9999);
            w.mend(1);
        }
        return w;
    }

    private static void ask(int which, Method method) throws IllegalAccessException {
        Popupwright w = book(which);
        Object[] args = new Object[method.getParameterCount()];
        for (int n = 0; n < args.length; n++) {
            args[n] = odd(method.getParameterTypes()[n]);
        }
        String call = which + ": " + method.getName() + Arrays.toString(args);
        try {
            method.invoke(w, args);
            CHECK.yes(call, w.isSound());
        } catch (InvocationTargetException thrown) {
            Class<?> got = thrown.getCause().getClass();
            CHECK.yes(call + " threw " + got + ":", List.of(method.getExceptionTypes()).contains(got));
            CHECK.yes(call + " changed nothing:", state(w).equals(state(book(which))));
        }
    }

    private static Object odd(Class<?> type) {
        if (type == boolean.class) {
            return draw(2) == 0;
        }
        if (type == char.class) {
            return "sxyzSXY\0".charAt(draw(8));
        }
        return draw(2) == 0 ? draw(40) : ODD[draw(ODD.length)];
    }

    /** What can be asked of a book without a change, with a sound answer or the name of what is thrown. */
    private static String state(Popupwright w) {
        StringBuilder all = new StringBuilder();
        for (int n = 0; n < 25; n += n < 4 ? 1 : 7) {
            int at = n;
            add(all, () -> w.room(at, true));
            add(all, () -> w.room(2 * at, false));
            add(all, () -> w.across(at, 1, 5));
            add(all, () -> w.tired(at));
            add(all, () -> w.begunAt(at));
            add(all, () -> w.colourAt(at, 0, 10));
            add(all, () -> w.colourAt(at, 7, 10));
            add(all, () -> w.isWhole(at, 9) ? 1 : 0);
            add(all, () -> w.pullAt(at));
            add(all, () -> w.netAt(at, 'x'));
            add(all, () -> w.sticksOut(at));
        }
        add(all, () -> w.scene(3));
        add(all, () -> w.folds());
        add(all, () -> w.paper());
        add(all, () -> w.plates(0));
        add(all, () -> w.clashes());
        add(all, () -> w.makingTime());
        add(all, () -> w.lasts(0, 1));
        add(all, () -> w.setPaper(200));
        add(all, () -> w.setSheet(500, 700));
        add(all, () -> w.setGlue(10));
        add(all, () -> w.picture(0, 0, 1, 10, 11, 1));
        add(all, () -> w.pull(1, 0, 1, 1));
        add(all, () -> w.flap(0));
        add(all, () -> w.turn(1) ? 1 : 0);
        add(all, () -> w.join(1, 2));
        add(all, () -> w.move(0, 3, 999));
        add(all, () -> w.open(18, 9999));
        add(all, () -> w.mend(1));
        add(all, () -> w.fold(0, 1, 1, 0, 1));
        return all.toString();
    }

    private interface Asked {
        double answer();
    }

    private static void add(StringBuilder to, Asked call) {
        try {
            to.append(call.answer());
        } catch (RuntimeException thrown) {
            to.append(thrown.getClass().getSimpleName());
        }
        to.append(' ');
    }
}
