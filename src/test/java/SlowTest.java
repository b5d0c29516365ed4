import java.util.function.DoubleSupplier;

/** Long runs of drawn calls: the program answers each as the slow one does. */
public final class SlowTest {
    private static final Check CHECK = new Check("SlowTest");
    private static final int PROMISED_CALLS = 512;
    private static long seed;

    private Popupwright fast;
    private Slow slow;
    private int run;
    private int size;
    private int calls;

    public static void main(String[] args) {
        for (int run = 1; run <= 900; run++) {
            SlowTest test = new SlowTest();
            test.run = run;
            seed = 7919L * run + 13;
            test.play();
        }
        CHECK.end();
    }

    /** The same numbers always: a test must fail again as it failed. */
    private static int draw(int bound) {
        seed = seed * 6364136223846793005L + 1442695040888963407L;
        return (int) ((seed >>> 33) % bound);
    }

    private static int draw(int least, int most) {
        return least + draw(most - least + 1);
    }

    private static boolean coin() {
        return draw(2) == 0;
    }

    private void play() {
        fast = new Popupwright();
        slow = new Slow();
        size = run % 4 == 0 ? 400 : run % 4 == 1 ? 60 : run % 4 == 2 ? 100 : 25;
        if (run % 7 > 0) {
            begin();
        }
        for (int n = 0; calls < PROMISED_CALLS && n < 250; n++) {
            if (run % 3 == 0 && n < 40) {
                build();
            } else {
                any();
            }
        }
    }

    private void hold(String call, DoubleSupplier one, DoubleSupplier other) {
        calls++;
        if (calls > PROMISED_CALLS) {
            return;
        }
        String got = answer(one);
        String due = answer(other);
        CHECK.yes("run " + run + ": " + call + " answered " + got + ", the slow one " + due + ":", got.equals(due));
    }

    private static String answer(DoubleSupplier call) {
        try {
            return "" + call.getAsDouble();
        } catch (RuntimeException thrown) {
            return thrown.getClass().getSimpleName();
        }
    }

    private void begin() {
        int w = draw(100) == 0 ? draw(15, 410) : draw(20, size);
        int h = draw(100) == 0 ? draw(15, 410) : draw(20, size);
        hold("spread " + w + " " + h, () -> fast.spread(w, h), () -> slow.spread(w, h));
    }

    private int crease() {
        return draw(20) == 0 ? draw(-2, 60) : draw(0, 2 * slow.folds() + (draw(9) == 0 ? 1 : 0));
    }

    private int someFold() {
        return draw(15) == 0 ? draw(-1, 25) : draw(0, Math.max(0, slow.folds() - 1));
    }

    private int strip() {
        int which = draw(3) == 0 ? draw(4) : draw(2);
        return draw(25) == 0 ? draw(-3, 100) : 4 * someFold() + which;
    }

    private int length(int crease, boolean left) {
        int room;
        try {
            room = slow.room(crease, left);
        } catch (IndexOutOfBoundsException none) {
            room = size;
        }
        if (draw(15) == 0) {
            return draw(-1, room + 2);
        }
        return draw(1, Math.max(1, draw(3) == 0 ? room : room / 2));
    }

    private int[] part(int least, int most) {
        int beyond = draw(25) == 0 ? 1 : 0;
        int one = draw(least - beyond, most);
        int two = draw(least, most + beyond);
        if (draw(30) == 0) {
            return new int[] {one, two};
        }
        if (draw(5) == 0) {
            return new int[] {least, most};
        }
        return new int[] {Math.min(one, two), Math.max(one, two) + (one == two ? 1 : 0)};
    }

    private int[] part(int[] within) {
        return part(within[within.length - 2], within[within.length - 1]);
    }

    private void build() {
        switch (draw(6)) {
            case 0: arm(); break;
            case 1: wish(); break;
            case 2: restore(); break;
            default: fold();
        }
    }

    private void fold() {
        int c = crease();
        int a = length(c, true);
        int b = length(c, false);
        int[] y = part(slow.heights(c));
        hold("fold " + c + " " + a + " " + b + " " + y[0] + " " + y[1],
                () -> fast.fold(c, a, b, y[0], y[1]), () -> slow.fold(c, a, b, y[0], y[1]));
    }

    private void restore() {
        int c = crease();
        int a = length(c, true);
        int both = a + length(c, false);
        boolean left = coin();
        int[] y = part(slow.heights(c));
        hold("restore " + c + " " + both + " " + a + " " + left, () -> fast.restore(c, both, a, left, y[0], y[1]),
                () -> slow.restore(c, both, a, left, y[0], y[1]));
    }

    private void wish() {
        int i = draw(0, size / 2 + 1);
        int j = draw(0, size / 2 + 1);
        int[] y = part(slow.heights(0));
        if (size == 400 && draw(6) > 0) {
            return;
        }
        hold("wish " + i + " " + j + " " + y[0] + " " + y[1],
                () -> fast.wish(i, j, y[0], y[1]), () -> slow.wish(i, j, y[0], y[1]));
    }

    private void arm() {
        int f = someFold();
        boolean first = coin();
        int length = draw(12) == 0 ? draw(-1, 402) : draw(1, Math.max(1, size / 4));
        int[] y = part(slow.extent(4 * f));
        hold("arm " + f + " " + first + " " + length, () -> fast.arm(f, first, length, y[0], y[1]),
                () -> slow.arm(f, first, length, y[0], y[1]));
    }

    private void any() {
        switch (draw(16)) {
            case 0: build(); break;
            case 1: stand(); break;
            case 2: shut(); break;
            case 3: look(); look(); look(); break;
            case 4: layer(); break;
            case 5: layer(); break;
            case 6: flaps(); break;
            case 7: pulls(); pulls(); break;
            case 8: nets(); break;
            case 9: glue(); break;
            case 10: stations(); break;
            case 11: live(); break;
            case 12: sums(); break;
            case 13: build(); break;
            case 14: glue(); break;
            default:
                if (draw(20) == 0) {
                    begin();
                }
        }
    }

    private void stand() {
        int s = strip();
        int t = strip();
        int place = draw(draw(9) == 0 ? -1 : 0, slow.extent(s)[0] + (draw(9) == 0 ? 1 : 0));
        int step = draw(15) == 0 ? draw(-2, 20) : draw(19);
        hold("across", () -> fast.across(s, place, step), () -> slow.across(s, place, step));
        hold("above", () -> fast.above(s, place, step), () -> slow.above(s, place, step));
        hold("apart", () -> fast.apart(s, t, step), () -> slow.apart(s, t, step));
        int c = crease();
        boolean left = coin();
        hold("room", () -> fast.room(c, left), () -> slow.room(c, left));
    }

    private void shut() {
        int f = someFold();
        int s = strip();
        hold("doesShut", () -> fast.doesShut() ? 1 : 0, () -> slow.doesShut() ? 1 : 0);
        hold("sticksOut", () -> fast.sticksOut(f), () -> slow.sticksOut(f));
        hold("clashes", fast::clashes, slow::clashes);
        hold("clashOf " + s, () -> fast.clashOf(s), () -> slow.clashOf(s));
        hold("isGood", () -> fast.isGood() ? 1 : 0, () -> slow.isGood() ? 1 : 0);
    }

    private void look() {
        int step = draw(15) == 0 ? draw(-2, 20) : draw(1, 17);
        int x = draw(-65 * size, 65 * size * 2);
        int y = draw(-1, size);
        int s = strip();
        int place = draw(0, slow.extent(s)[0]);
        try {
            if (coin()) {
                x = slow.across(s, place, step);
            }
        } catch (RuntimeException none) {
            x = 65 * draw(0, size);
        }
        int at = x;
        hold("sees " + step + " " + at + " " + y, () -> fast.sees(step, at, y), () -> slow.sees(step, at, y));
    }

    private void layer() {
        int s = strip();
        int[] extent = slow.extent(s);
        int[] along = part(0, extent[0]);
        int[] y = part(extent);
        int colour = draw(20) == 0 ? draw(-1, 101) : draw(1, 9);
        hold("picture " + s, () -> fast.picture(s, along[0], along[1], y[0], y[1], colour),
                () -> slow.picture(s, along[0], along[1], y[0], y[1], colour));
        int place = draw(draw(9) == 0 ? -1 : 0, extent[0] + (draw(9) == 0 ? 1 : 0));
        int at = draw(extent[1] - (draw(9) == 0 ? 1 : 0), extent[2] + (draw(9) == 0 ? 1 : 0));
        hold("colourAt", () -> fast.colourAt(s, place, at), () -> slow.colourAt(s, place, at));
        hold("colourAt", () -> fast.colourAt(s, along[0], y[1]), () -> slow.colourAt(s, along[0], y[1]));
    }

    private void flaps() {
        int p = draw(draw(9) == 0 ? -1 : 0, draw(0, 8));
        int step = draw(-1, 19);
        hold("isWhole " + p + " " + step, () -> fast.isWhole(p, step) ? 1 : 0, () -> slow.isWhole(p, step) ? 1 : 0);
        hold("showStep", fast::showStep, slow::showStep);
        if (coin()) {
            hold("flap", () -> fast.flap(p), () -> slow.flap(p));
        } else {
            hold("turn", () -> fast.turn(p) ? 1 : 0, () -> slow.turn(p) ? 1 : 0);
        }
    }

    private void pulls() {
        int s = strip();
        int[] along = part(0, slow.extent(s)[0]);
        int friction = draw(20) == 0 ? draw(-1, 101) : draw(0, 20);
        int p = draw(draw(9) == 0 ? -1 : 0, draw(0, 6));
        int q = draw(draw(9) == 0 ? -1 : 0, draw(0, 6));
        int by = draw(12) == 0 ? draw(-410, 410) : draw(-12, 12);
        int force = draw(20) == 0 ? draw(-5, 1005) : draw(0, 90);
        if (coin()) {
            hold("pull", () -> fast.pull(s, along[0], along[1], friction),
                    () -> slow.pull(s, along[0], along[1], friction));
        } else {
            hold("join " + p + " " + q, () -> fast.join(p, q), () -> slow.join(p, q));
        }
        hold("move " + p + " " + by + " " + force, () -> fast.move(p, by, force), () -> slow.move(p, by, force));
        hold("pullAt", () -> fast.pullAt(q), () -> slow.pullAt(q));
    }

    private void nets() {
        int w = draw(15) == 0 ? draw(15, 2005) : draw(size / 2 + 10, 2 * size + 10);
        int l = draw(15) == 0 ? draw(15, 2005) : draw(size + 10, 4 * size + 10);
        int adds = draw(20) == 0 ? draw(-1, 101) : draw(0, 6);
        hold("setSheet", () -> fast.setSheet(w, l), () -> slow.setSheet(w, l));
        hold("sheets", fast::sheets, slow::sheets);
        for (int n = 0; n < 3; n++) {
            int f = someFold();
            char what = "sxyz".charAt(draw(12) == 0 ? 3 : draw(3));
            hold("netAt " + f + " " + what, () -> fast.netAt(f, what), () -> slow.netAt(f, what));
        }
        hold("plates " + adds, () -> fast.plates(adds), () -> slow.plates(adds));
        hold("plates 0", () -> fast.plates(0), () -> slow.plates(0));
    }

    private void glue() {
        int minutes = draw(10) == 0 ? draw(-1, 101) : draw(0, 12);
        int n = draw(-1, slow.folds());
        int f = someFold();
        hold("setGlue", () -> fast.setGlue(minutes), () -> slow.setGlue(minutes));
        hold("orderAt " + n, () -> fast.orderAt(n), () -> slow.orderAt(n));
        hold("begunAt " + f, () -> fast.begunAt(f), () -> slow.begunAt(f));
        hold("waiting " + f, () -> fast.waiting(f), () -> slow.waiting(f));
        hold("makingTime", fast::makingTime, slow::makingTime);
    }

    private void stations() {
        int k = draw(-1, 11);
        int minutes = draw(15) == 0 ? draw(-1, 10010) : draw(1, 200);
        hold("balance " + k, () -> fast.balance(k), () -> slow.balance(k));
        hold("copies " + k + " " + minutes, () -> fast.copies(k, minutes), () -> slow.copies(k, minutes));
    }

    private void live() {
        int w = draw(10) == 0 ? draw(90, 410) : draw(100, 400);
        int step = draw(15) == 0 ? draw(-1, 20) : draw(1, 18);
        int times = draw(15) == 0 ? draw(-1, 10001) : draw(1, 150);
        int f = someFold();
        hold("setPaper", () -> fast.setPaper(w), () -> slow.setPaper(w));
        if (draw(3) == 0) {
            hold("open", () -> fast.open(step, times), () -> slow.open(step, times));
        }
        hold("tired", () -> fast.tired(f), () -> slow.tired(f));
        hold("lasts", () -> fast.lasts(f, step), () -> slow.lasts(f, step));
        if (coin()) {
            hold("mend", () -> fast.mend(f), () -> slow.mend(f));
        }
    }

    private void sums() {
        int years = draw(-1, 8);
        int step = draw(-1, 19);
        hold("forChild", () -> fast.forChild(years), () -> slow.forChild(years));
        hold("folds", fast::folds, slow::folds);
        hold("paper", fast::paper, slow::paper);
        hold("scene", () -> fast.scene(step), () -> slow.scene(step));
        hold("tornShare", fast::tornShare, slow::tornShare);
        hold("meanLength", fast::meanLength, slow::meanLength);
        hold("isSound", () -> fast.isSound() ? 1 : 0, () -> slow.isSound() ? 1 : 0);
    }
}
