import java.io.File;
import java.io.IOException;
import java.lang.reflect.InvocationTargetException;
import java.lang.reflect.Method;
import java.lang.reflect.Modifier;
import java.nio.file.Files;
import java.nio.file.Path;
import java.util.Set;
import java.util.TreeSet;
import java.util.regex.Matcher;
import java.util.regex.Pattern;

/** The calls that README.md shows answer as it says, and what it names is there; run where README.md is. */
public final class ReadmeTest {
    private static final Check CHECK = new Check("ReadmeTest");
    private static final Pattern CALL = Pattern.compile("w\\.(\\w+)\\((.*)\\); +// (throws \\w+|[^:]+)(:.*)?");
    private static final Pattern FILE = Pattern.compile("[\\w./]*\\b\\w+\\.(java|md)\\b");
    private static final Set<String> SHOWN = new TreeSet<>();

    private static Popupwright w;

    public static void main(String[] args) throws IOException {
        String block = "";
        for (String line : Files.readAllLines(Path.of("README.md"))) {
            if (line.startsWith("```")) {
                block = block.isEmpty() ? line.substring(3) : "";
            } else if (block.equals("java")) {
                show(line);
            } else {
                names(line);
            }
        }
        for (Method method : Popupwright.class.getDeclaredMethods()) {
            CHECK.yes("README.md shows " + method.getName(),
                    !Modifier.isPublic(method.getModifiers()) || SHOWN.contains(method.getName()));
        }
        CHECK.end();
    }

    private static void show(String line) {
        if (line.equals("Popupwright w = new Popupwright();")) {
            w = new Popupwright();
            return;
        }
        Matcher shown = CALL.matcher(line);
        CHECK.yes("a call with its answer: " + line, shown.matches());
        if (shown.matches()) {
            SHOWN.add(shown.group(1));
            String got = answer(shown.group(1), shown.group(2).isEmpty() ? new String[0] : shown.group(2).split(", "));
            CHECK.yes(line + " (it answered " + got + ")", got.equals(shown.group(3)));
        }
    }

    private static String answer(String name, String[] written) {
        Object[] args = new Object[written.length];
        for (int n = 0; n < args.length; n++) {
            args[n] = value(written[n]);
        }
        for (Method method : Popupwright.class.getDeclaredMethods()) {
            if (method.getName().equals(name)) {
                return made(method, args);
            }
        }
        return "no such method";
    }

    private static String made(Method method, Object[] args) {
        try {
            return String.valueOf(method.invoke(w, args));
        } catch (InvocationTargetException thrown) {
            return "throws " + thrown.getCause().getClass().getSimpleName();
        } catch (IllegalAccessException hidden) {
            return "not public";
        }
    }

    private static Object value(String written) {
        if (written.startsWith("'")) {
            return written.charAt(1);
        }
        if (written.equals("true") || written.equals("false")) {
            return written.equals("true");
        }
        return Integer.valueOf(written);
    }

    /** The project's own files: those under ../shared are not ours, and may be others one day. */
    private static void names(String line) {
        Matcher named = FILE.matcher(line);
        while (named.find()) {
            String name = named.group();
            boolean isThere = name.equals("Test.java") || name.startsWith("..") || name.equals("LANGUAGE.md");
            for (String folder : new String[] {".", "src/main/java", "src/test/java"}) {
                isThere |= new File(folder, name).exists();
            }
            CHECK.yes("README.md names " + name + ", and it is there", isThere);
        }
    }
}
