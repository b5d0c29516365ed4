import java.lang.reflect.InvocationTargetException;
import java.lang.reflect.Method;
import java.lang.reflect.Modifier;
import java.util.Arrays;
import java.util.Map;
import java.util.TreeMap;

/**
 * Promises 1 to 49 in runs of all 512 calls that one object has: many folds, arms, pictures, pulls, openings and
 * wishes meet in each, and each answer is held against the document, as Slow.java writes it once more.
 * With the number of a run as its argument, it tells the calls of this run.
 */
public final class LongRunsTest {
    private static final Check CHECK = new Check("LongRunsTest");
    private static final int CALLS = 512;
    private static final int RUNS = 240;
    private static final Map<String, Method> FAST = methodsOf(Popupwright.class);
    private static final Map<String, Method> SLOW = methodsOf(Slow.class);
    private static final Map<String, Integer> MET = new TreeMap<>();
    private static int told = -1;

    private final int run;
    private final Popupwright fast = new Popupwright();
    private final Slow slow = new Slow();
    private long seed;
    private int calls;
    private int width;
    private int height;
    private int pictures;
    private int pulls;
    private int torn;
    private boolean wasGood;

    private LongRunsTest(int itsRun) {
        run = itsRun;
        seed = 6007L * itsRun + 5;
    }

    public static void main(String[] args) {
        if (args.length > 0) {
            told = Integer.parseInt(args[0]);
            new LongRunsTest(told).play();
            return;
        }
        for (int run = 1; run <= RUNS; run++) {
            new LongRunsTest(run).play();
        }
        reached();
        CHECK.end();
    }

    private static Map<String, Method> methodsOf(Class<?> type) {
        Map<String, Method> methods = new TreeMap<>();
        for (Method method : type.getDeclaredMethods()) {
            methods.put(method.getName() + method.getParameterCount(), method);
        }
        return methods;
    }

    private int draw(int least, int most) {
        seed = seed * 6364136223846793005L + 1442695040888963407L;
        return least + (int) ((seed >>> 33) % (Math.max(least, most) - least + 1));
    }

    private boolean isOneOf(int many) {
        return draw(1, many) == 1;
    }

    private static void meets(String what) {
        MET.merge(what, 1, Integer::sum);
    }

    /** Both answer; after the 512th call nothing is promised, and nothing is asked. */
    private Object hold(String name, Object... args) {
        if (calls == CALLS) {
            return "not asked";
        }
        calls++;
        Object due = answer(SLOW.get(name + args.length), slow, args);
        Object got = answer(FAST.get(name + args.length), fast, args);
        String call = name + Arrays.toString(args);
        if (run == told) {
            System.out.println(calls + ": " + call + " -> " + got + (got.equals(due) ? "" : ", due is " + due));
        }
        CHECK.yes("run " + run + ", call " + calls + ": " + call + " answered " + got + ", due is " + due + ":",
                got.equals(due));
        meets(name + (due instanceof Class ? " throws" : " answers"));
        return due;
    }

    private static Object answer(Method method, Object of, Object[] args) {
        try {
            return method.invoke(of, args);
        } catch (InvocationTargetException thrown) {
            return thrown.getCause().getClass();
        } catch (IllegalAccessException hidden) {
            throw new AssertionError(hidden);
        }
    }

    private void play() {
        begin();
        int building = 60 + 20 * (run % 4);
        for (int n = 0; n < 4 * CALLS && calls < CALLS; n++) {
            if (n < building || isOneOf(9)) {
                build();
            } else {
                ask();
            }
            watch();
        }
        ended();
    }

    private void begin() {
        int[] sizes = {36, 60, 100, 160, 400};
        int size = sizes[run % 5];
        width = draw(size / 2 + 2, size);
        height = run % 3 == 0 ? draw(20, 60) : draw(20, 200);
        hold("spread", width, height);
        hold("setPaper", draw(100, 400));
        hold("setGlue", draw(0, 30));
        hold("setSheet", draw(height, 3 * height + 60), draw(width + 20, 4 * width + 60));
    }

    private void build() {
        switch (draw(0, 11)) {
            case 0: case 1: case 2: fold(); break;
            case 3: case 4: arm(); break;
            case 5: wish(); break;
            case 6: restore(); break;
            case 7: picture(); break;
            case 8: pull(); break;
            case 9: picture(); break;
            case 10: open(); break;
            default: mendOrWish();
        }
    }

    private void ask() {
        switch (draw(0, 13)) {
            case 0: points(); break;
            case 1: shut(); break;
            case 2: case 3: look(); break;
            case 4: case 5: colours(); break;
            case 6: moves(); break;
            case 7: nets(); break;
            case 8: hands(); break;
            case 9: stations(); break;
            case 10: lives(); break;
            case 11: sums(); break;
            case 12: open(); break;
            default: mendOrWish();
        }
    }

    private int someCrease() {
        return isOneOf(60) ? draw(-1, 50) : draw(0, 2 * slow.folds());
    }

    private int someFold() {
        return isOneOf(60) ? draw(-1, 24) : draw(0, slow.folds() - 1);
    }

    private int someStrip() {
        int strip = draw(-1, 96);
        for (int n = 0; n < 8 && !isOneOf(50); n++) {
            strip = 4 * draw(0, slow.folds() - 1) + (isOneOf(3) ? draw(2, 3) : draw(0, 1));
            if (slow.hasStrip(strip)) {
                return strip;
            }
        }
        return strip;
    }

    private int[] part(int least, int most) {
        if (isOneOf(50)) {
            return new int[] {draw(least - 1, most), draw(least, most + 1)};
        }
        if (isOneOf(3)) {
            return new int[] {least, most};
        }
        int from = draw(least, most - 1);
        return new int[] {from, draw(from + 1, most)};
    }

    /** Wishes come true only in good books: so these runs make but folds and arms that leave the book good. */
    private boolean isTidy() {
        return run % 2 == 0;
    }

    /** Lengths a, b and a part of y: of some draws the first one that leaves the book good. */
    private int[] drawnFold(int crease) {
        int[] lengths = {0, 1, 0, 1};
        for (int n = 0; n < 12; n++) {
            int[] rooms = slow.rooms(crease);
            int[] y = part(rooms[2], rooms[3]);
            int a = draw(isOneOf(40) ? 0 : 1, isOneOf(40) ? rooms[0] + 1 : Math.max(1, rooms[0] / draw(1, 4)));
            int b = draw(isOneOf(40) ? 0 : 1, isOneOf(40) ? rooms[1] + 1 : Math.max(1, rooms[1] / draw(1, 4)));
            lengths = new int[] {a, b, y[0], y[1]};
            if (slow.staysGood(crease, a, b, y[0], y[1])) {
                return lengths;
            }
        }
        return isTidy() ? new int[] {0, 1, 0, 1} : lengths;
    }

    private void fold() {
        int crease = isOneOf(3) ? 0 : someCrease();
        int[] drawn = drawnFold(crease);
        hold("fold", crease, drawn[0], drawn[1], drawn[2], drawn[3]);
    }

    private void restore() {
        int crease = someCrease();
        int[] drawn = drawnFold(crease);
        boolean isLeft = isOneOf(2);
        hold("restore", crease, drawn[0] + drawn[1], isLeft ? drawn[0] : drawn[1], isLeft, drawn[2], drawn[3]);
    }

    private void arm() {
        for (int n = 0; n < 12; n++) {
            int fold = someFold();
            boolean isFirst = isOneOf(2);
            int length = isOneOf(40) ? draw(0, 401) : draw(1, Math.max(2, width / 6));
            int[] panel = slow.panel(fold);
            int[] y = part(panel[0], panel[1]);
            if (!isTidy() && isOneOf(6) || slow.staysGoodWithArm(fold, isFirst, length, y[0], y[1])) {
                hold("arm", fold, isFirst, length, y[0], y[1]);
                meets(slow.isTorn(fold) ? "an arm for a torn fold" : "an arm for a fold");
                return;
            }
        }
    }

    private void wish() {
        int i = draw(isOneOf(60) ? 0 : 1, width * 2 / 3);
        int j = draw(isOneOf(60) ? 0 : 1, Math.max(2, width - i));
        if (slow.folds() > 0 && !isOneOf(3)) {
            // A ridge in line with another one, or in another one's crease: those that may need two folds.
            int[] ridge = slow.ridge(draw(0, slow.folds() - 1));
            boolean isAlongLeft = isOneOf(2);
            i = Math.min(400, ridge[0] + (isAlongLeft || isOneOf(4) ? draw(0, width / 3) : 0));
            j = Math.min(400, ridge[1] + (isAlongLeft && !isOneOf(4) ? 0 : draw(0, width / 3)));
        }
        int[] panel = slow.panel(draw(0, slow.folds() - 1));
        int[] y = isOneOf(2) ? part(panel[0], panel[1]) : part(0, height);
        int folds = slow.folds();
        Object made = hold("wish", i, j, y[0], y[1]);
        if (made instanceof Integer) {
            String with = " with " + (folds >= 8 ? "many" : "few") + " folds";
            meets("wish by " + made + with + (pictures > 2 && pulls > 0 ? ", pictures and pulls" : ""));
            meets("wish by " + made + (torn > 0 ? ", some torn" : ""));
            meets(slow.isParentTorn(folds) ? "wish in the crease of a torn fold" : "wish elsewhere");
        }
    }

    private void mendOrWish() {
        int fold = someFold();
        for (int n = 0; n < 9 && !slow.isTorn(fold); n++) {
            fold = someFold();
        }
        if (isOneOf(run % 5 == 0 ? 9 : 3) || !slow.isTorn(fold)) {
            wish();
        } else {
            meets("mend answers " + hold("mend", fold));
        }
    }

    /** In some runs as many as go, in others a few, of which each is whole in the same step, when it is put. */
    private void picture() {
        boolean isFew = run % 3 > 0;
        for (int n = 0; n < 25; n++) {
            int strip = someStrip();
            int[] extent = slow.extent(strip);
            int[] along = part(0, extent[0]);
            int[] y = part(extent[1], extent[2]);
            int colour = isOneOf(40) ? draw(0, 100) : draw(1, 12);
            if (!isFew || pictures < 3 && slow.isSeen(strip, along, y, 1 + run % 17)) {
                put(strip, along, y, colour);
                n += isFew ? 25 : 12;
            }
        }
        if (isOneOf(3)) {
            hold("flap", draw(0, pictures));
        }
    }

    private void put(int strip, int[] along, int[] y, int colour) {
        if (hold("picture", strip, along[0], along[1], y[0], y[1], colour) instanceof Integer) {
            pictures++;
        }
    }

    private void pull() {
        int strip = someStrip();
        int[] along = part(0, slow.extent(strip)[0]);
        if (hold("pull", strip, along[0], along[1], isOneOf(40) ? draw(-1, 100) : draw(0, 30)) instanceof Integer) {
            pulls++;
        }
        int last = pulls - 1;
        int which = draw(0, 2);
        Object followers = which == 0 ? hold("join", last, draw(0, last))
                : which == 1 ? hold("join", last - 1, last) : hold("join", draw(0, last), draw(0, last));
        meets(followers instanceof Integer && (Integer) followers > 3 ? "many follow" : "few follow");
    }

    private void open() {
        Object now = hold("open", draw(isOneOf(40) ? 0 : 1, isOneOf(40) ? 19 : 18),
                isOneOf(40) ? draw(0, 10000) : draw(1, run % 5 > 0 ? 60 : run % 10 > 0 ? 4000 : 600));
        if (now instanceof Integer) {
            meets((Integer) now > torn ? "open tears" : "open tears none");
        }
    }

    private void points() {
        int strip = someStrip();
        int[] extent = slow.extent(strip);
        int step = draw(isOneOf(40) ? -1 : 0, isOneOf(40) ? 19 : 18);
        int place = draw(isOneOf(40) ? -1 : 0, extent[0] + (isOneOf(40) ? 1 : 0));
        hold("across", strip, place, step);
        hold("above", strip, place, step);
        hold("apart", strip, someStrip(), step);
        hold("room", someCrease(), isOneOf(2));
    }

    private void shut() {
        hold("doesShut");
        hold("sticksOut", someFold());
        hold("clashes");
        hold("clashOf", someStrip());
        hold("isGood");
    }

    /** Mostly at the ends and edges of strips, where it is told most easily wrongly who is seen. */
    private void look() {
        int strip = someStrip();
        int[] extent = slow.extent(strip);
        int step = draw(isOneOf(40) ? 0 : 1, isOneOf(40) ? 18 : 17);
        int x = draw(-65 * width, 130 * width);
        if (slow.hasStrip(strip) && step > 0 && !isOneOf(4)) {
            x = slow.across(strip, isOneOf(2) ? extent[0] : draw(0, extent[0]), step) + draw(-1, 1);
        }
        int y = isOneOf(2) ? draw(extent[1] - 1, extent[2] + 1) : isOneOf(2) ? extent[1] : extent[2];
        Object seen = hold("sees", step, x, y);
        if (seen instanceof Integer) {
            meets((Integer) seen >= 0 ? "a strip is seen" : "the page " + seen + " is seen");
        }
    }

    private void colours() {
        int picture = isOneOf(60) ? draw(-1, 30) : draw(0, pictures - 1);
        int step = draw(isOneOf(40) ? 0 : 1, isOneOf(40) ? 18 : 17);
        int[] layer = slow.layer(picture);
        int strip = isOneOf(5) ? someStrip() : layer[0];
        int place = isOneOf(2) ? layer[1 + draw(0, 1)] : draw(layer[1] - 1, layer[2] + 1);
        int y = isOneOf(2) ? layer[3 + draw(0, 1)] : draw(layer[3] - 1, layer[4] + 1);
        Object colour = hold("colourAt", strip, place, y);
        meets("a colour is " + (colour instanceof Integer ? (Integer) colour > 0 ? "seen" : "not seen" : "not asked"));
        meets("isWhole answers " + hold("isWhole", picture, step));
        meets(hold("showStep") instanceof Integer ? pictures > 1 ? "all are shown" : "it is shown" : "not all are shown");
        hold(isOneOf(3) ? "flap" : "turn", picture);
        hold("colourAt", strip, place, y);
    }

    private void moves() {
        for (int n = 0; n < 3; n++) {
            int pull = isOneOf(60) ? draw(-1, 10) : draw(0, pulls - 1);
            int by = isOneOf(30) ? draw(-401, 401) : draw(-25, 25);
            Object went = hold("move", pull, by, isOneOf(30) ? draw(-1, 1000) : draw(0, 150));
            meets("it went " + (went.equals(by) ? "all" : went.equals(0) ? "nothing" : "a part"));
            hold("pullAt", draw(0, pulls - 1));
        }
        hold("join", draw(0, pulls - 1), draw(0, pulls - 1));
    }

    private void nets() {
        hold("setSheet", draw(isOneOf(40) ? 19 : height, isOneOf(40) ? 2001 : 2 * height + 40),
                draw(isOneOf(40) ? 19 : width + 20, 3 * width + 60));
        Object sheets = hold("sheets");
        meets(sheets instanceof Integer && (Integer) sheets > 2 ? "more sheets than two" : "some sheets");
        hold("netAt", someFold(), 's');
        hold("netAt", someFold(), isOneOf(2) ? 'x' : 'y');
        hold("netAt", someFold(), isOneOf(40) ? 'z' : 'y');
        hold("plates", 0);
        hold("plates", isOneOf(30) ? draw(-1, 100) : draw(1, 8));
    }

    private void hands() {
        hold("setGlue", draw(isOneOf(40) ? -1 : 0, isOneOf(40) ? 100 : 25));
        hold("orderAt", draw(isOneOf(40) ? -1 : 0, slow.folds() - 1 + (isOneOf(40) ? 1 : 0)));
        hold("orderAt", draw(0, slow.folds() - 1));
        hold("begunAt", someFold());
        hold("waiting", someFold());
        hold("makingTime");
    }

    private void stations() {
        Object one = hold("balance", 1);
        Object more = hold("balance", draw(isOneOf(40) ? 0 : 2, isOneOf(40) ? 10 : 9));
        meets(one.equals(more) ? "stations do not help" : "stations help");
        int some = draw(1, 9);
        int minutes = isOneOf(20) ? draw(0, 10000) : slow.minutesFor(some, draw(1, 9)) - draw(0, 1);
        hold("copies", isOneOf(40) ? draw(0, 10) : some, minutes);
    }

    private void lives() {
        int fold = someFold();
        hold("setPaper", draw(isOneOf(40) ? 99 : 100, isOneOf(40) ? 401 : 400));
        hold("tired", fold);
        hold("lasts", fold, draw(isOneOf(40) ? 0 : 1, isOneOf(40) ? 19 : 18));
        hold("lasts", someFold(), draw(1, 18));
    }

    private void sums() {
        Object child = hold("forChild", draw(isOneOf(40) ? -1 : 0, isOneOf(40) ? 100 : 7));
        meets("forChild answers " + child);
        hold("folds");
        hold("paper");
        hold("scene", draw(isOneOf(40) ? -1 : 0, isOneOf(40) ? 19 : 18));
        hold("tornShare");
        hold("meanLength");
        hold("isSound");
    }

    private void watch() {
        torn = slow.tornNow();
        boolean isGood = slow.isGood();
        if (isGood != wasGood) {
            meets(isGood ? "gets good again" : "gets bad");
        }
        wasGood = isGood;
    }

    private void ended() {
        CHECK.same("run " + run + " calls", calls, CALLS);
        meets(slow.folds() == 24 ? "ends with 24 folds" : slow.folds() > 11 ? "ends with many folds" : "ends with few");
        meets(pictures == 30 ? "ends with 30 pictures" : "ends with less pictures");
        meets(pulls == 10 ? "ends with 10 pulls" : "ends with less pulls");
        meets(torn > 0 && torn < slow.folds() ? "ends with some torn" : "ends with all torn, or none");
    }

    /** Without these, the runs would pass, but meet too little. */
    private static void reached() {
        String[] due = {
            "ends with 24 folds", "ends with 30 pictures", "ends with 10 pulls", "ends with some torn",
            "wish by 1 with many folds, pictures and pulls", "wish by 2 with many folds, pictures and pulls",
            "wish by 1, some torn", "wish by 2, some torn", "wish in the crease of a torn fold",
            "an arm for a torn fold", "open tears", "mend answers 1", "mend answers 2", "mend answers 3",
            "mend answers class java.lang.UnsupportedOperationException",
            "gets good again", "gets bad", "all are shown", "isWhole answers true", "isWhole answers false",
            "a colour is seen", "a colour is not seen", "a strip is seen", "the page -1 is seen", "the page -2 is seen",
            "many follow", "it went all", "it went a part", "it went nothing", "more sheets than two", "stations help",
            "forChild answers g", "forChild answers p", "forChild answers a", "forChild answers y"
        };
        for (String one : due) {
            CHECK.yes("the runs meet: " + one, MET.getOrDefault(one, 0) >= 3);
        }
        for (Method method : FAST.values()) {
            if (Modifier.isPublic(method.getModifiers()) && !method.getName().equals("spread")) {
                CHECK.yes(method.getName() + " answers", MET.getOrDefault(method.getName() + " answers", 0) >= 200);
            }
        }
    }
}
