/** Promises 1 to 8: a new object, spreads, folds, rooms, arms, and where points stand. */
public final class SpreadTest {
    private static final Check CHECK = new Check("SpreadTest");

    public static void main(String[] args) {
        newObject();
        newObjectsSheets();
        spreads();
        spreadBeginsWithoutAnything();
        folds();
        foldsRefused();
        mostFolds();
        rooms();
        arms();
        armsRefused();
        places();
        placesInAllSteps();
        placesRefused();
        distances();
        CHECK.end();
    }

    static Popupwright one() {
        Popupwright w = new Popupwright();
        w.spread(100, 80);
        w.fold(0, 40, 30, 10, 70);
        return w;
    }

    static Popupwright three() {
        Popupwright w = one();
        w.fold(1, 20, 15, 10, 40);
        w.fold(2, 10, 50, 20, 60);
        return w;
    }

    /** As many folds as are told, in the crease 0, each over a y of 1, one beside the other. */
    static Popupwright row(int folds) {
        Popupwright w = new Popupwright();
        w.spread(100, 80);
        for (int n = 0; n < folds; n++) {
            w.fold(0, 20, 20, n, n + 1);
        }
        return w;
    }

    private static void newObject() {
        Popupwright w = new Popupwright();
        CHECK.same("folds of a new one", w.folds(), 0);
        CHECK.same("paper of a new one", w.setPaper(300), 200);
        CHECK.same("sheet of a new one", w.setSheet(20, 20), 700);
        CHECK.same("glue of a new one", w.setGlue(5), 10);
        CHECK.fails("doesShut of a new one", UnsupportedOperationException.class, () -> w.doesShut());
        CHECK.fails("crease 0 of a new one", IndexOutOfBoundsException.class, () -> w.room(0, true));
        CHECK.same("sheets of a new one", new Popupwright().sheets(), 0);
        CHECK.yes("a new one is sound", new Popupwright().isSound());
    }

    private static void newObjectsSheets() {
        Popupwright w = new Popupwright();
        w.spread(400, 400);
        w.fold(0, 10, 10, 0, 300);
        w.fold(0, 10, 10, 0, 200);
        CHECK.same("500 across hold 300 and 200", w.netAt(1, 'x'), 300);
        w.spread(400, 400);
        w.fold(0, 10, 10, 0, 300);
        w.fold(0, 10, 10, 0, 201);
        CHECK.same("500 across do not hold 300 and 201", w.netAt(1, 'x'), 0);
        w.spread(400, 400);
        w.fold(0, 200, 130, 0, 300);
        w.fold(0, 200, 130, 0, 300);
        CHECK.same("700 along hold 350 twice", w.sheets(), 1);
        w.fold(0, 200, 131, 0, 300);
        CHECK.same("700 along do not hold 351 and 350", w.netAt(0, 's'), 1);
    }

    private static void spreads() {
        Popupwright w = new Popupwright();
        CHECK.same("spread 20 20", w.spread(20, 20), 0);
        CHECK.same("room of 20", w.room(0, true), 20);
        w.fold(0, 5, 5, 0, 20);
        w.fold(0, 6, 6, 0, 20);
        CHECK.same("spread 400 400", w.spread(400, 400), 2);
        CHECK.same("spread again", w.spread(20, 400), 0);
        for (int wrong : new int[] {19, 401, 0, -1, Integer.MIN_VALUE, Integer.MAX_VALUE}) {
            CHECK.fails("spread " + wrong + " 50", IllegalArgumentException.class, () -> w.spread(wrong, 50));
            CHECK.fails("spread 50 " + wrong, IllegalArgumentException.class, () -> w.spread(50, wrong));
        }
        CHECK.same("a refused spread leaves the width", w.room(0, false), 20);
    }

    private static void spreadBeginsWithoutAnything() {
        Popupwright w = three();
        w.arm(0, true, 5, 10, 70);
        w.picture(0, 0, 5, 10, 20, 3);
        w.flap(0);
        w.pull(0, 0, 5, 1);
        w.setPaper(400);
        w.setSheet(900, 800);
        w.setGlue(3);
        w.open(18, 9999);
        w.spread(50, 60);
        CHECK.same("folds", w.folds(), 0);
        CHECK.fails("strips", IndexOutOfBoundsException.class, () -> w.across(0, 0, 0));
        CHECK.fails("creases", IndexOutOfBoundsException.class, () -> w.room(1, true));
        CHECK.fails("pictures", IndexOutOfBoundsException.class, () -> w.isWhole(0, 1));
        CHECK.fails("pulls", IndexOutOfBoundsException.class, () -> w.pullAt(0));
        w.fold(0, 10, 10, 0, 60);
        CHECK.same("a new fold is not tired", w.tired(0), 0);
        CHECK.fails("a new fold has no arm", IndexOutOfBoundsException.class, () -> w.across(2, 0, 0));
        CHECK.same("pictures are numbered anew", w.picture(0, 0, 5, 0, 20, 3), 0);
        CHECK.fails("and have no flap", UnsupportedOperationException.class, () -> w.turn(0));
        CHECK.same("pulls are numbered anew", w.pull(0, 0, 5, 3), 0);
        CHECK.same("the paper stays", w.setPaper(200), 400);
        CHECK.same("the sheets stay", w.setSheet(500, 700), 800);
        CHECK.same("the glue stays", w.setGlue(10), 3);
    }

    private static void folds() {
        Popupwright w = new Popupwright();
        w.spread(100, 80);
        CHECK.same("the first fold", w.fold(0, 100, 1, 0, 80), 0);
        CHECK.same("the second fold", w.fold(0, 1, 100, 79, 80), 1);
        CHECK.same("one in a crease of a fold", w.fold(2, 100, 99, 0, 80), 2);
        CHECK.same("one in another", w.fold(3, 99, 100, 79, 80), 3);
        CHECK.same("folds", w.folds(), 4);
    }

    private static void foldsRefused() {
        Popupwright none = new Popupwright();
        CHECK.fails("without a spread", IndexOutOfBoundsException.class, () -> none.fold(0, 1, 1, 0, 1));
        Popupwright w = one();
        CHECK.fails("crease -1", IndexOutOfBoundsException.class, () -> w.fold(-1, 1, 1, 10, 20));
        CHECK.fails("crease 3", IndexOutOfBoundsException.class, () -> w.fold(3, 1, 1, 10, 20));
        CHECK.fails("the crease ahead of the rest", IndexOutOfBoundsException.class, () -> w.fold(3, 0, 0, 9, 9));
        Class<IllegalArgumentException> illegal = IllegalArgumentException.class;
        CHECK.fails("a 0", illegal, () -> w.fold(1, 0, 1, 10, 20));
        CHECK.fails("b 0", illegal, () -> w.fold(1, 1, 0, 10, 20));
        CHECK.fails("a less than 0", illegal, () -> w.fold(1, -5, 1, 10, 20));
        CHECK.fails("a longer than its room", illegal, () -> w.fold(1, 61, 1, 10, 20));
        CHECK.fails("b longer than its room", illegal, () -> w.fold(1, 1, 31, 10, 20));
        CHECK.fails("low below", illegal, () -> w.fold(1, 1, 1, 9, 20));
        CHECK.fails("high above", illegal, () -> w.fold(1, 1, 1, 10, 71));
        CHECK.fails("high as low", illegal, () -> w.fold(1, 1, 1, 20, 20));
        CHECK.fails("high less than low", illegal, () -> w.fold(1, 1, 1, 30, 20));
        CHECK.fails("great numbers", illegal, () -> w.fold(1, Integer.MAX_VALUE, 1, 10, 20));
        CHECK.same("none of these was made", w.folds(), 1);
        CHECK.same("but one at all edges is", w.fold(1, 60, 30, 10, 70), 1);
        CHECK.fails("a room of 0", illegal, () -> w.fold(3, 1, 1, 10, 20));
    }

    private static void mostFolds() {
        Popupwright w = row(23);
        CHECK.same("the last fold", w.fold(0, 1, 1, 70, 80), 23);
        CHECK.fails("one more", IllegalStateException.class, () -> w.fold(0, 1, 1, 70, 80));
        CHECK.fails("one more, restored", IllegalStateException.class, () -> w.restore(0, 2, 1, true, 70, 80));
        CHECK.fails("one more, too long", IllegalArgumentException.class, () -> w.fold(0, 101, 1, 70, 80));
        CHECK.fails("one more, no crease", IndexOutOfBoundsException.class, () -> w.fold(49, 1, 1, 70, 80));
        CHECK.same("the last crease is there", w.room(48, false), 99);
        CHECK.same("folds", w.folds(), 24);
    }

    private static void rooms() {
        Popupwright w = three();
        int[][] due = {{100, 100}, {60, 30}, {40, 70}, {40, 15}, {20, 15}, {30, 50}, {10, 20}};
        for (int n = 0; n < due.length; n++) {
            CHECK.same("left room " + n, w.room(n, true), due[n][0]);
            CHECK.same("right room " + n, w.room(n, false), due[n][1]);
        }
        CHECK.fails("room -1", IndexOutOfBoundsException.class, () -> w.room(-1, true));
        CHECK.fails("room 7", IndexOutOfBoundsException.class, () -> w.room(7, true));
    }

    private static void arms() {
        Popupwright w = one();
        CHECK.same("the second arm", w.arm(0, false, 400, 10, 70), 3);
        CHECK.same("its end", w.across(3, 400, 9), 65 * 440);
        CHECK.same("its height", w.above(3, 400, 9), 65 * 30);
        CHECK.same("the first arm", w.arm(0, true, 1, 30, 31), 2);
        CHECK.same("its beginning", w.above(2, 0, 9), 65 * 30);
        CHECK.same("its end", w.above(2, 1, 9), 65 * 31);
        w.fold(2, 10, 50, 20, 60);
        CHECK.same("an arm of another fold", w.arm(1, true, 7, 20, 60), 6);
        CHECK.same("its end", w.across(6, 7, 4), 65 * 10 + 52 * 87);
    }

    private static void armsRefused() {
        Popupwright w = one();
        CHECK.fails("no fold", IndexOutOfBoundsException.class, () -> w.arm(1, true, 5, 10, 70));
        CHECK.fails("fold -1", IndexOutOfBoundsException.class, () -> w.arm(-1, true, 0, 10, 70));
        for (int wrong : new int[] {0, -1, 401, Integer.MIN_VALUE}) {
            CHECK.fails("length " + wrong, IllegalArgumentException.class, () -> w.arm(0, true, wrong, 10, 70));
        }
        CHECK.fails("low", IllegalArgumentException.class, () -> w.arm(0, true, 5, 9, 70));
        CHECK.fails("high", IllegalArgumentException.class, () -> w.arm(0, true, 5, 10, 71));
        CHECK.fails("none of y", IllegalArgumentException.class, () -> w.arm(0, true, 5, 30, 30));
        w.arm(0, true, 5, 10, 70);
        CHECK.fails("there is one", UnsupportedOperationException.class, () -> w.arm(0, true, 6, 10, 70));
        CHECK.fails("there is one, too long", IllegalArgumentException.class, () -> w.arm(0, true, 401, 10, 70));
        CHECK.fails("it is as long as before", IllegalArgumentException.class, () -> w.across(2, 6, 0));
        CHECK.same("the other panel is free", w.arm(0, false, 5, 10, 70), 3);
    }

    private static void places() {
        Popupwright w = three();
        CHECK.same("across(5, 7, 3)", w.across(5, 7, 3), 3895);
        CHECK.same("above(5, 7, 3)", w.above(5, 7, 3), 495);
        CHECK.same("across(8, 20, 12)", w.across(8, 20, 12), -1000);
        CHECK.same("above(8, 20, 12)", w.above(8, 20, 12), 2800);
        CHECK.same("across(9, 10, 9)", w.across(9, 10, 9), 650);
        CHECK.same("across(4, 0, 1)", w.across(4, 0, 1), 3900);
        CHECK.same("above(4, 15, 1)", w.above(4, 15, 1), 240);
    }

    private static void placesInAllSteps() {
        Popupwright w = one();
        int[] c = {65, 63, 60, 56, 52, 39, 33, 25, 16, 0, -16, -25, -33, -39, -52, -56, -60, -63, -65};
        int[] s = {0, 16, 25, 33, 39, 52, 56, 60, 63, 65, 63, 60, 56, 52, 39, 33, 25, 16, 0};
        for (int step = 0; step <= 18; step++) {
            CHECK.same("across in " + step, w.across(0, 30, step), 2600 + 30 * c[step]);
            CHECK.same("above in " + step, w.above(0, 30, step), 30 * s[step]);
            CHECK.same("across of the left way in " + step, w.across(1, 11, step), 715 + 30 * c[step]);
            CHECK.same("above of the left way in " + step, w.above(1, 11, step), 30 * s[step]);
        }
    }

    private static void placesRefused() {
        Popupwright w = one();
        for (int strip : new int[] {-1, 2, 3, 4, 96, Integer.MAX_VALUE}) {
            CHECK.fails("across of " + strip, IndexOutOfBoundsException.class, () -> w.across(strip, -1, -1));
            CHECK.fails("above of " + strip, IndexOutOfBoundsException.class, () -> w.above(strip, -1, -1));
            CHECK.fails("apart of " + strip, IndexOutOfBoundsException.class, () -> w.apart(strip, 0, -1));
            CHECK.fails("apart to " + strip, IndexOutOfBoundsException.class, () -> w.apart(0, strip, -1));
        }
        for (int place : new int[] {-1, 31, Integer.MIN_VALUE}) {
            CHECK.fails("across at " + place, IllegalArgumentException.class, () -> w.across(0, place, 0));
            CHECK.fails("above at " + place, IllegalArgumentException.class, () -> w.above(0, place, 0));
        }
        for (int step : new int[] {-1, 19, Integer.MAX_VALUE}) {
            CHECK.fails("across in " + step, IllegalArgumentException.class, () -> w.across(0, 0, step));
            CHECK.fails("above in " + step, IllegalArgumentException.class, () -> w.above(0, 0, step));
            CHECK.fails("apart in " + step, IllegalArgumentException.class, () -> w.apart(0, 1, step));
        }
    }

    private static void distances() {
        Popupwright w = three();
        CHECK.same("both panels meet", w.apart(0, 1, 7), 0);
        CHECK.same("apart(4, 9, 5)", w.apart(4, 9, 5), 11935625);
        CHECK.same("apart(9, 4, 5)", w.apart(9, 4, 5), 11935625);
        CHECK.same("from itself", w.apart(4, 4, 5), 0);
        w.spread(400, 400);
        w.fold(0, 200, 200, 0, 400);
        w.arm(0, true, 400, 0, 400);
        w.arm(0, false, 400, 0, 400);
        CHECK.same("more than an int holds", w.apart(2, 3, 18), 2704000000L);
    }
}
