import java.lang.reflect.Field;
import java.lang.reflect.Method;
import java.lang.reflect.Modifier;
import java.util.ArrayList;
import java.util.List;
import java.util.Set;
import java.util.TreeSet;

/** The class has the face of the document, and nothing beside it. */
public final class FaceTest {
    private static final Check CHECK = new Check("FaceTest");
    private static final String[] FACE = {
        "int spread(int, int) throws IllegalArgumentException",
        "int fold(int, int, int, int, int)"
                + " throws IndexOutOfBoundsException, IllegalArgumentException, IllegalStateException",
        "int room(int, boolean) throws IndexOutOfBoundsException",
        "int arm(int, boolean, int, int, int)"
                + " throws IndexOutOfBoundsException, IllegalArgumentException, UnsupportedOperationException",
        "int across(int, int, int) throws IndexOutOfBoundsException, IllegalArgumentException",
        "int above(int, int, int) throws IndexOutOfBoundsException, IllegalArgumentException",
        "long apart(int, int, int) throws IndexOutOfBoundsException, IllegalArgumentException",
        "boolean doesShut() throws UnsupportedOperationException",
        "int sticksOut(int) throws IndexOutOfBoundsException",
        "int clashes()",
        "int clashOf(int) throws IndexOutOfBoundsException, NoSuchElementException",
        "boolean isGood() throws UnsupportedOperationException",
        "int sees(int, int, int) throws IllegalArgumentException, NoSuchElementException",
        "int picture(int, int, int, int, int, int)"
                + " throws IndexOutOfBoundsException, IllegalArgumentException, IllegalStateException",
        "int colourAt(int, int, int) throws IndexOutOfBoundsException, IllegalArgumentException",
        "boolean isWhole(int, int) throws IndexOutOfBoundsException, IllegalArgumentException",
        "int showStep() throws NoSuchElementException",
        "int flap(int) throws IndexOutOfBoundsException, UnsupportedOperationException",
        "boolean turn(int) throws IndexOutOfBoundsException, UnsupportedOperationException",
        "int pull(int, int, int, int)"
                + " throws IndexOutOfBoundsException, IllegalArgumentException, IllegalStateException",
        "int join(int, int) throws IndexOutOfBoundsException, UnsupportedOperationException",
        "int move(int, int, int) throws IndexOutOfBoundsException, IllegalArgumentException",
        "int pullAt(int) throws IndexOutOfBoundsException",
        "int setSheet(int, int) throws IllegalArgumentException",
        "int sheets() throws UnsupportedOperationException",
        "int netAt(int, char)"
                + " throws IndexOutOfBoundsException, IllegalArgumentException, UnsupportedOperationException",
        "int plates(int) throws IllegalArgumentException, UnsupportedOperationException",
        "int setGlue(int) throws IllegalArgumentException",
        "int orderAt(int) throws NoSuchElementException",
        "int begunAt(int) throws IndexOutOfBoundsException",
        "int waiting(int) throws IndexOutOfBoundsException",
        "int makingTime()",
        "int balance(int) throws IllegalArgumentException",
        "int copies(int, int) throws IllegalArgumentException, UnsupportedOperationException",
        "int setPaper(int) throws IllegalArgumentException",
        "int open(int, int) throws IllegalArgumentException, UnsupportedOperationException",
        "int tired(int) throws IndexOutOfBoundsException",
        "int lasts(int, int)"
                + " throws IndexOutOfBoundsException, IllegalArgumentException, UnsupportedOperationException",
        "int mend(int) throws IndexOutOfBoundsException, UnsupportedOperationException",
        "int wish(int, int, int, int)"
                + " throws IllegalArgumentException, UnsupportedOperationException, NoSuchElementException",
        "int restore(int, int, int, boolean, int, int)"
                + " throws IndexOutOfBoundsException, IllegalArgumentException, IllegalStateException",
        "char forChild(int) throws IllegalArgumentException, UnsupportedOperationException",
        "int folds()",
        "long paper()",
        "long scene(int) throws IllegalArgumentException",
        "float tornShare() throws ArithmeticException",
        "double meanLength() throws ArithmeticException",
        "boolean isSound()"
    };

    public static void main(String[] args) {
        Class<?> face = Popupwright.class;
        CHECK.yes("public and final", Modifier.isPublic(face.getModifiers()) && Modifier.isFinal(face.getModifiers()));
        CHECK.same("constructors", face.getDeclaredConstructors().length, 1);
        CHECK.same("public constructors without arguments", face.getConstructors()[0].getParameterCount(), 0);
        methods(face);
        fields(face);
        for (Class<?> inside : face.getDeclaredClasses()) {
            CHECK.yes(inside + " is static", Modifier.isStatic(inside.getModifiers()) || inside.isInterface());
            CHECK.no(inside + " is public", Modifier.isPublic(inside.getModifiers()));
            fields(inside);
            noFaceNames(inside);
        }
        CHECK.yes("at most some twelve classes", face.getDeclaredClasses().length <= 12);
        CHECK.end();
    }

    private static void methods(Class<?> face) {
        Set<String> due = new TreeSet<>(List.of(FACE));
        Set<String> got = new TreeSet<>();
        for (Method method : face.getDeclaredMethods()) {
            if (!Modifier.isPrivate(method.getModifiers())) {
                got.add(told(method));
            } else {
                CHECK.no(method.getName() + " bears a public name", names().contains(method.getName()));
            }
        }
        CHECK.same("promises but that of the constructor", due.size(), 48);
        for (String one : due) {
            CHECK.yes("there is " + one, got.contains(one));
        }
        for (String one : got) {
            CHECK.yes("the document knows " + one, due.contains(one));
        }
    }

    private static Set<String> names() {
        Set<String> names = new TreeSet<>();
        for (String one : FACE) {
            names.add(one.substring(one.indexOf(' ') + 1, one.indexOf('(')));
        }
        return names;
    }

    private static String told(Method method) {
        List<String> types = new ArrayList<>();
        for (Class<?> type : method.getParameterTypes()) {
            types.add(type.getSimpleName());
        }
        List<String> thrown = new ArrayList<>();
        for (Class<?> type : method.getExceptionTypes()) {
            thrown.add(type.getSimpleName());
        }
        String call = method.getReturnType() + " " + method.getName() + "(" + String.join(", ", types) + ")";
        return thrown.isEmpty() ? call : call + " throws " + String.join(", ", thrown);
    }

    private static void noFaceNames(Class<?> inside) {
        for (Method method : inside.getDeclaredMethods()) {
            CHECK.no(method + " bears a public name", names().contains(method.getName()));
        }
    }

    private static void fields(Class<?> of) {
        int own = 0;
        for (Field field : of.getDeclaredFields()) {
            int is = field.getModifiers();
            CHECK.yes(field + " is not seen", of != Popupwright.class || Modifier.isPrivate(is));
            CHECK.yes(field + " is final, if static", !Modifier.isStatic(is) || Modifier.isFinal(is));
            own += Modifier.isStatic(is) ? 0 : 1;
        }
        CHECK.yes(of + " has at most some twenty fields", own <= 20);
    }
}
