import java.util.NoSuchElementException;

/** Promises 14 to 20: what an eye sees, pictures and flaps. */
public final class ViewTest {
    private static final Check CHECK = new Check("ViewTest");

    public static void main(String[] args) {
        seesUpright();
        seesRising();
        seesBeyond();
        seesByY();
        seesNothing();
        pictures();
        picturesRefused();
        mostPictures();
        colours();
        coloursRefused();
        whole();
        wholeByY();
        wholeRefused();
        shows();
        flaps();
        flapsHideAll();
        torn();
        CHECK.end();
    }

    private static void see(Popupwright w, int step, int x, int y, int due) {
        CHECK.same("sees(" + step + ", " + x + ", " + y + ")", w.sees(step, x, y), due);
    }

    private static void blind(Popupwright w, int step, int x, int y) {
        CHECK.fails("sees(" + step + ", " + x + ", " + y + ")", NoSuchElementException.class, () -> w.sees(step, x, y));
    }

    private static void seesUpright() {
        Popupwright w = SpreadTest.one();
        see(w, 9, 0, 40, 1);
        see(w, 9, 2600, 40, 1);
        see(w, 9, 2601, 40, -1);
        see(w, 9, 6500, 40, -1);
        blind(w, 9, 6501, 40);
        blind(w, 9, -1, 40);
    }

    private static void seesRising() {
        Popupwright w = SpreadTest.one();
        see(w, 5, 0, 40, -1);
        see(w, 5, 1, 40, -2);
        see(w, 5, 1169, 40, -2);
        see(w, 5, 1170, 40, 1);
        see(w, 5, 1171, 40, -2);
        see(w, 5, 3770, 40, -2);
        see(w, 5, 3900, 40, -2);
        see(w, 5, 3901, 40, -1);
        see(w, 5, 2600, 5, -2);
        blind(w, 5, -1, 40);
    }

    private static void seesBeyond() {
        Popupwright w = SpreadTest.one();
        see(w, 13, -1170, 40, 1);
        see(w, 13, -1171, 40, -2);
        see(w, 13, -3900, 40, -2);
        blind(w, 13, -3901, 40);
        see(w, 13, 0, 40, 1);
        see(w, 13, 1429, 40, 1);
        see(w, 13, 1430, 40, 0);
        see(w, 13, 1431, 40, 0);
        see(w, 13, 2600, 40, 0);
        see(w, 13, 2601, 40, -1);
        see(w, 13, 0, 5, -1);
        see(w, 13, -1, 5, -2);
        see(w, 17, -1000, 40, 1);
        see(w, 1, 6304, 40, -1);
        see(w, 1, 6300, 0, -2);
    }

    private static void seesByY() {
        Popupwright w = SpreadTest.one();
        see(w, 9, 100, 9, -1);
        see(w, 9, 100, 10, 1);
        see(w, 9, 100, 70, 1);
        see(w, 9, 100, 71, -1);
        see(w, 9, 100, 0, -1);
        see(w, 9, 100, 80, -1);
        blind(w, 9, 100, -1);
        blind(w, 9, 100, 81);
        w.fold(0, 20, 30, 70, 80);
        see(w, 9, 100, 70, 1);
        see(w, 9, 100, 71, 5);
        w.fold(0, 20, 31, 60, 80);
        see(w, 9, 100, 70, 9);
        see(w, 9, 100, 59, 1);
    }

    private static void seesNothing() {
        Popupwright w = SpreadTest.one();
        for (int step : new int[] {0, 18, -1, 19, Integer.MIN_VALUE}) {
            CHECK.fails("in " + step, IllegalArgumentException.class, () -> w.sees(step, 99999, 0));
        }
        Popupwright none = new Popupwright();
        blind(none, 1, 0, 0);
        blind(none, 17, 0, 0);
        blind(w, 3, Integer.MAX_VALUE, 40);
        blind(w, 3, Integer.MIN_VALUE, 40);
        blind(w, 16, Integer.MAX_VALUE, 40);
        blind(w, 16, Integer.MIN_VALUE, 40);
        blind(w, 16, 0, Integer.MIN_VALUE);
    }

    private static void pictures() {
        Popupwright w = SpreadTest.one();
        CHECK.same("all of a strip", w.picture(0, 0, 30, 10, 70, 1), 0);
        CHECK.same("the least of it", w.picture(1, 39, 40, 69, 70, 99), 1);
        w.arm(0, true, 5, 20, 30);
        CHECK.same("on an arm", w.picture(2, 0, 5, 20, 30, 50), 2);
    }

    private static void picturesRefused() {
        Popupwright w = SpreadTest.one();
        w.arm(0, true, 5, 20, 30);
        Class<IllegalArgumentException> illegal = IllegalArgumentException.class;
        CHECK.fails("no strip", IndexOutOfBoundsException.class, () -> w.picture(3, 9, 1, 9, 1, 0));
        CHECK.fails("strip -1", IndexOutOfBoundsException.class, () -> w.picture(-1, 0, 1, 10, 20, 1));
        CHECK.fails("a page", IndexOutOfBoundsException.class, () -> w.picture(-2, 0, 1, 10, 20, 1));
        CHECK.fails("from", illegal, () -> w.picture(0, -1, 30, 10, 70, 1));
        CHECK.fails("to", illegal, () -> w.picture(0, 0, 31, 10, 70, 1));
        CHECK.fails("from as to", illegal, () -> w.picture(0, 5, 5, 10, 70, 1));
        CHECK.fails("low", illegal, () -> w.picture(0, 0, 30, 9, 70, 1));
        CHECK.fails("high", illegal, () -> w.picture(0, 0, 30, 10, 71, 1));
        CHECK.fails("low as high", illegal, () -> w.picture(0, 0, 30, 70, 70, 1));
        CHECK.fails("colour 0", illegal, () -> w.picture(0, 0, 30, 10, 70, 0));
        CHECK.fails("colour 100", illegal, () -> w.picture(0, 0, 30, 10, 70, 100));
        CHECK.fails("below an arm", illegal, () -> w.picture(2, 0, 5, 19, 30, 1));
        CHECK.fails("above an arm", illegal, () -> w.picture(2, 0, 5, 20, 31, 1));
        CHECK.same("none of these was put", w.picture(0, 0, 30, 10, 70, 1), 0);
    }

    private static void mostPictures() {
        Popupwright w = SpreadTest.one();
        for (int n = 0; n < 30; n++) {
            CHECK.same("a picture", w.picture(0, 0, 1, 10, 20, 1 + n), n);
        }
        CHECK.fails("one more", IllegalStateException.class, () -> w.picture(0, 0, 1, 10, 20, 1));
        CHECK.fails("one more, wrong", IllegalArgumentException.class, () -> w.picture(0, 0, 1, 10, 20, 0));
        CHECK.fails("one more, nowhere", IndexOutOfBoundsException.class, () -> w.picture(9, 0, 1, 10, 20, 0));
        CHECK.same("the last one lies over all", w.colourAt(0, 0, 10), 30);
        CHECK.same("a flap over the last one", w.flap(29), 1);
    }

    private static void colours() {
        Popupwright w = SpreadTest.one();
        CHECK.same("no picture", w.colourAt(1, 5, 20), 0);
        w.picture(1, 5, 35, 15, 65, 7);
        w.picture(1, 0, 10, 15, 20, 9);
        int[][] due = {
            {4, 15, 9}, {5, 15, 9}, {10, 20, 9}, {11, 20, 7}, {10, 21, 7}, {5, 21, 7}, {4, 21, 0}, {35, 65, 7},
            {36, 65, 0}, {35, 66, 0}, {0, 14, 0}, {0, 15, 9}, {5, 14, 0}, {0, 10, 0}, {40, 70, 0}
        };
        for (int[] d : due) {
            CHECK.same("at " + d[0] + " " + d[1], w.colourAt(1, d[0], d[1]), d[2]);
        }
        CHECK.same("the other strip", w.colourAt(0, 6, 18), 0);
    }

    private static void coloursRefused() {
        Popupwright w = SpreadTest.one();
        CHECK.fails("no strip", IndexOutOfBoundsException.class, () -> w.colourAt(2, -1, 20));
        CHECK.fails("place -1", IllegalArgumentException.class, () -> w.colourAt(0, -1, 20));
        CHECK.fails("place 31", IllegalArgumentException.class, () -> w.colourAt(0, 31, 20));
        CHECK.fails("y 9", IllegalArgumentException.class, () -> w.colourAt(0, 0, 9));
        CHECK.fails("y 71", IllegalArgumentException.class, () -> w.colourAt(0, 0, 71));
        CHECK.same("the corner", w.colourAt(0, 30, 70), 0);
    }

    private static void whole() {
        Popupwright w = SpreadTest.one();
        w.picture(0, 0, 30, 10, 70, 1);
        w.picture(1, 10, 40, 10, 70, 2);
        w.picture(1, 10, 39, 10, 70, 3);
        CHECK.no("under the second panel", w.isWhole(0, 5));
        CHECK.no("upright", w.isWhole(0, 9));
        CHECK.yes("open", w.isWhole(0, 13));
        CHECK.yes("open, step 17", w.isWhole(0, 17));
        CHECK.no("under the right page", w.isWhole(2, 5));
        CHECK.yes("upright, it is seen", w.isWhole(1, 9));
        CHECK.no("open, its end is that of the first panel", w.isWhole(1, 13));
        CHECK.yes("short of the end", w.isWhole(2, 13));
        CHECK.yes("short of the end, step 17", w.isWhole(2, 17));
    }

    private static void wholeByY() {
        Popupwright w = SpreadTest.one();
        w.picture(1, 10, 30, 20, 40, 2);
        w.fold(2, 20, 10, 41, 50);
        CHECK.yes("one above it hides nothing", w.isWhole(0, 9));
        w.fold(2, 19, 10, 40, 50);
        CHECK.no("one at its upper edge does", w.isWhole(0, 9));
        Popupwright lower = SpreadTest.one();
        lower.picture(1, 10, 30, 20, 40, 2);
        lower.fold(2, 40, 10, 10, 20);
        CHECK.no("one at its lower edge does", lower.isWhole(0, 9));
        Popupwright middle = SpreadTest.one();
        middle.picture(1, 10, 30, 20, 40, 2);
        middle.fold(2, 40, 10, 21, 39);
        CHECK.yes("one between its corners does not", middle.isWhole(0, 9));
    }

    private static void wholeRefused() {
        Popupwright w = SpreadTest.one();
        w.picture(0, 0, 30, 10, 70, 1);
        CHECK.fails("picture 1", IndexOutOfBoundsException.class, () -> w.isWhole(1, 0));
        CHECK.fails("picture -1", IndexOutOfBoundsException.class, () -> w.isWhole(-1, 5));
        CHECK.fails("step 0", IllegalArgumentException.class, () -> w.isWhole(0, 0));
        CHECK.fails("step 18", IllegalArgumentException.class, () -> w.isWhole(0, 18));
    }

    private static void shows() {
        Popupwright w = SpreadTest.one();
        CHECK.fails("no picture", NoSuchElementException.class, () -> w.showStep());
        w.picture(1, 0, 39, 10, 70, 1);
        CHECK.same("the first step", w.showStep(), 6);
        w.picture(0, 0, 30, 10, 70, 1);
        CHECK.same("with one that is seen open", w.showStep(), 10);
        w.fold(2, 40, 20, 10, 70);
        w.picture(4, 0, 20, 10, 70, 1);
        CHECK.fails("one that is hidden in all of them", NoSuchElementException.class, () -> hidden().showStep());
        Popupwright late = new Popupwright();
        late.spread(100, 80);
        late.fold(0, 40, 30, 10, 70);
        late.picture(0, 0, 1, 10, 70, 1);
        CHECK.same("a late one", late.showStep(), 9 + 1);
    }

    private static Popupwright hidden() {
        Popupwright w = SpreadTest.one();
        w.fold(0, 40, 30, 10, 70);
        w.picture(5, 10, 20, 10, 70, 1);
        return w;
    }

    private static void flaps() {
        Popupwright w = SpreadTest.one();
        w.picture(1, 5, 35, 15, 65, 7);
        w.picture(1, 0, 10, 15, 20, 9);
        CHECK.fails("no flap", UnsupportedOperationException.class, () -> w.turn(1));
        CHECK.same("the first flap", w.flap(1), 1);
        CHECK.same("down, it hides", w.colourAt(1, 5, 18), 0);
        CHECK.same("just its place", w.colourAt(1, 11, 18), 7);
        CHECK.same("and its edge", w.colourAt(1, 10, 20), 0);
        CHECK.no("turned up", w.turn(1));
        CHECK.same("it does not hide", w.colourAt(1, 5, 18), 9);
        CHECK.yes("turned down", w.turn(1));
        CHECK.same("it hides again", w.colourAt(1, 5, 18), 0);
        CHECK.same("the second flap", w.flap(0), 2);
        CHECK.fails("it has one", UnsupportedOperationException.class, () -> w.flap(1));
        CHECK.no("the second one is turned up", w.turn(0));
        CHECK.fails("it has one, up", UnsupportedOperationException.class, () -> w.flap(0));
        for (int n : new int[] {-1, 2, 30, Integer.MAX_VALUE}) {
            CHECK.fails("flap " + n, IndexOutOfBoundsException.class, () -> w.flap(n));
            CHECK.fails("turn " + n, IndexOutOfBoundsException.class, () -> w.turn(n));
        }
    }

    private static void flapsHideAll() {
        Popupwright w = SpreadTest.one();
        w.picture(1, 5, 35, 15, 65, 7);
        w.flap(0);
        w.picture(1, 0, 10, 15, 20, 9);
        CHECK.same("what lies over its picture, too", w.colourAt(1, 7, 18), 0);
        CHECK.same("not beside it", w.colourAt(1, 4, 18), 9);
        w.turn(0);
        CHECK.same("up, the later one is seen", w.colourAt(1, 7, 18), 9);
        CHECK.yes("a flap does not make a picture less whole", w.isWhole(0, 9));
        w.turn(0);
        CHECK.yes("nor down", w.isWhole(0, 9));
    }

    private static void torn() {
        Popupwright w = SpreadTest.one();
        w.picture(1, 0, 39, 10, 70, 1);
        w.open(18, 9999);
        see(w, 9, 100, 40, -1);
        CHECK.no("a picture of a torn fold", w.isWhole(0, 9));
        CHECK.fails("no step shows it", NoSuchElementException.class, () -> w.showStep());
        CHECK.fails("its strip is none", IndexOutOfBoundsException.class, () -> w.colourAt(1, 0, 10));
        CHECK.fails("no picture on it", IndexOutOfBoundsException.class, () -> w.picture(1, 0, 39, 10, 70, 1));
        CHECK.same("its number stays", w.flap(0), 1);
        w.mend(0);
        see(w, 9, 100, 40, 1);
        CHECK.yes("mended", w.isWhole(0, 9));
        CHECK.same("under its flap", w.colourAt(1, 0, 10), 0);
    }
}
