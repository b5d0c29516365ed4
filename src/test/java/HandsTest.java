import java.util.NoSuchElementException;

/** Promises 29 to 35: in which order hands glue, and how stations share it. */
public final class HandsTest {
    private static final Check CHECK = new Check("HandsTest");

    public static void main(String[] args) {
        glue();
        oneFold();
        minutes();
        parents();
        inOneCrease();
        alike();
        otherCreases();
        waitsForDrying();
        mostWaiting();
        takesAnother();
        refused();
        stations();
        copies();
        CHECK.end();
    }

    private static void glue() {
        Popupwright w = new Popupwright();
        CHECK.same("before", w.setGlue(0), 10);
        CHECK.same("then", w.setGlue(99), 0);
        CHECK.fails("-1", IllegalArgumentException.class, () -> w.setGlue(-1));
        CHECK.fails("100", IllegalArgumentException.class, () -> w.setGlue(100));
        CHECK.same("as before", w.setGlue(5), 99);
    }

    private static void order(Popupwright w, int... due) {
        for (int n = 0; n < due.length; n++) {
            CHECK.same("order at " + n, w.orderAt(n), due[n]);
        }
        CHECK.fails("order behind", NoSuchElementException.class, () -> w.orderAt(due.length));
        CHECK.yes("sound", w.isSound());
    }

    private static void begun(Popupwright w, int... due) {
        for (int n = 0; n < due.length; n++) {
            CHECK.same("begun " + n, w.begunAt(n), due[n]);
        }
    }

    private static void waiters(Popupwright w, int... due) {
        for (int n = 0; n < due.length; n++) {
            CHECK.same("waiting for " + n, w.waiting(n), due[n]);
        }
    }

    private static void oneFold() {
        Popupwright w = SpreadTest.one();
        order(w, 0);
        begun(w, 0);
        waiters(w, 0);
        CHECK.same("time", w.makingTime(), 7);
        CHECK.same("no time", new Popupwright().makingTime(), 0);
    }

    private static void minutes() {
        for (int[] d : new int[][] {{1, 1}, {9, 1}, {10, 2}, {19, 2}, {20, 3}, {80, 9}}) {
            Popupwright w = new Popupwright();
            w.spread(100, 80);
            w.fold(0, 1, 1, 0, d[0]);
            CHECK.same("minutes for " + d[0], w.makingTime(), d[1]);
        }
    }

    private static void parents() {
        Popupwright w = SpreadTest.three();
        waiters(w, 2, 0, 0);
        order(w, 0, 1, 2);
        begun(w, 0, 17, 21);
        CHECK.same("time", w.makingTime(), 26);
        w.fold(6, 1, 1, 20, 30);
        waiters(w, 3, 0, 1, 0);
        order(w, 0, 2, 1, 3);
        begun(w, 0, 22, 17, 32);
        CHECK.same("time", w.makingTime(), 34);
    }

    private static void inOneCrease() {
        Popupwright w = new Popupwright();
        w.spread(100, 80);
        w.fold(0, 40, 30, 0, 40);
        w.fold(0, 40, 20, 0, 40);
        w.fold(0, 30, 30, 0, 40);
        w.fold(0, 41, 29, 0, 40);
        waiters(w, 0, 2, 1, 0);
        order(w, 1, 2, 3, 0);
        begun(w, 20, 0, 5, 15);
        Popupwright apart = new Popupwright();
        apart.spread(100, 80);
        apart.fold(0, 40, 30, 0, 40);
        apart.fold(0, 20, 20, 40, 80);
        waiters(apart, 0, 0);
        order(apart, 0, 1);
        apart.fold(0, 20, 20, 39, 80);
        waiters(apart, 0, 2, 1);
    }

    private static void alike() {
        Popupwright w = new Popupwright();
        w.spread(100, 80);
        w.fold(0, 20, 20, 0, 40);
        w.fold(0, 20, 20, 0, 40);
        w.fold(0, 20, 20, 40, 80);
        waiters(w, 1, 0, 0);
        order(w, 0, 2, 1);
        begun(w, 0, 15, 5);
    }

    private static void otherCreases() {
        Popupwright w = SpreadTest.one();
        w.fold(1, 20, 15, 10, 40);
        w.fold(2, 10, 10, 10, 40);
        w.fold(1, 10, 10, 10, 40);
        waiters(w, 3, 0, 0, 1);
        order(w, 0, 3, 2, 1);
        begun(w, 0, 31, 21, 17);
    }

    private static void waitsForDrying() {
        Popupwright w = SpreadTest.one();
        w.fold(1, 20, 15, 10, 40);
        w.setGlue(0);
        begun(w, 0, 7);
        w.setGlue(1);
        begun(w, 0, 8);
        w.setGlue(99);
        begun(w, 0, 106);
        CHECK.same("time", w.makingTime(), 110);
    }

    private static void mostWaiting() {
        Popupwright w = new Popupwright();
        w.spread(100, 80);
        w.fold(0, 20, 20, 0, 20);
        w.fold(0, 20, 20, 20, 40);
        w.fold(0, 20, 20, 40, 60);
        w.fold(5, 5, 5, 40, 60);
        w.fold(3, 5, 5, 20, 40);
        w.fold(9, 5, 5, 20, 40);
        waiters(w, 0, 2, 1, 0, 1, 0);
        order(w, 1, 2, 0, 4, 3, 5);
        begun(w, 6, 0, 3, 16, 13, 26);
    }

    private static void takesAnother() {
        // With drying, the hand fills the time; without, it stays with what most wait for.
        Popupwright w = new Popupwright();
        w.spread(100, 80);
        w.fold(0, 20, 20, 0, 20);
        w.fold(1, 5, 5, 0, 20);
        w.fold(3, 5, 5, 0, 20);
        w.fold(0, 20, 20, 20, 80);
        order(w, 0, 3, 1, 2);
        begun(w, 0, 13, 26, 3);
        w.setGlue(0);
        order(w, 0, 1, 2, 3);
        CHECK.same("time", w.makingTime(), 16);
    }

    private static void refused() {
        Popupwright w = SpreadTest.one();
        CHECK.fails("order -1", NoSuchElementException.class, () -> w.orderAt(-1));
        CHECK.fails("order 1", NoSuchElementException.class, () -> w.orderAt(1));
        for (int fold : new int[] {-1, 1, 24, Integer.MAX_VALUE}) {
            CHECK.fails("begun " + fold, IndexOutOfBoundsException.class, () -> w.begunAt(fold));
            CHECK.fails("waiting " + fold, IndexOutOfBoundsException.class, () -> w.waiting(fold));
        }
        for (int wrong : new int[] {0, 10, -1}) {
            CHECK.fails("balance " + wrong, IllegalArgumentException.class, () -> w.balance(wrong));
            CHECK.fails("copies of " + wrong, IllegalArgumentException.class, () -> w.copies(wrong, 50));
        }
        CHECK.fails("0 minutes", IllegalArgumentException.class, () -> w.copies(1, 0));
        CHECK.fails("10000 minutes", IllegalArgumentException.class, () -> w.copies(1, 10000));
        Popupwright none = new Popupwright();
        CHECK.fails("no fold", UnsupportedOperationException.class, () -> none.copies(1, 1));
        CHECK.fails("no fold, no minute", IllegalArgumentException.class, () -> none.copies(1, 0));
        CHECK.same("no fold, no time", none.balance(9), 0);
    }

    /** Glued in the order 0, 1, 2, 3, 4, with 3, 5, 2, 7 and 1 minutes. */
    private static Popupwright five() {
        Popupwright w = new Popupwright();
        w.spread(400, 400);
        w.fold(0, 20, 20, 0, 20);
        w.fold(0, 20, 20, 20, 60);
        w.fold(0, 20, 20, 60, 70);
        w.fold(0, 20, 20, 70, 130);
        w.fold(0, 20, 20, 130, 131);
        return w;
    }

    private static void stations() {
        int[] due = {18, 10, 8, 7, 7, 7, 7, 7, 7};
        for (int n = 1; n <= 9; n++) {
            CHECK.same("balance of " + n, five().balance(n), due[n - 1]);
        }
        Popupwright w = SpreadTest.one();
        CHECK.same("one fold", w.balance(1), 7);
        w.fold(1, 20, 15, 10, 40);
        CHECK.same("without drying", w.balance(1), 11);
    }

    private static void copies() {
        Popupwright w = five();
        CHECK.same("not one", w.copies(2, 17), 0);
        CHECK.same("one", w.copies(2, 18), 1);
        CHECK.same("nearly two", w.copies(2, 27), 1);
        CHECK.same("two", w.copies(2, 28), 2);
        CHECK.same("many", w.copies(2, 9999), 999);
        CHECK.same("on one station", w.copies(1, 36), 2);
        CHECK.same("on nine", w.copies(9, 25), 2);
        Popupwright dry = SpreadTest.one();
        dry.fold(1, 20, 15, 10, 40);
        CHECK.same("without drying", dry.copies(1, 11), 1);
    }
}
