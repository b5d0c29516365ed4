import java.util.NoSuchElementException;

/** Promises 41 to 44, 46, 48 and 49: wishes, what is left of folds, children and sums. */
public final class MakingTest {
    private static final Check CHECK = new Check("MakingTest");

    public static void main(String[] args) {
        wishOne();
        wishTwo();
        wishTwoInItsSecondCrease();
        wishNone();
        wishLeavesNoTrace();
        wishAmongMany();
        wishRefused();
        restores();
        restoresRefused();
        children();
        tornCounts();
        sums();
        sound();
        CHECK.end();
    }

    private static void wishOne() {
        Popupwright w = new Popupwright();
        w.spread(100, 80);
        CHECK.same("in the gutter", w.wish(30, 40, 0, 80), 1);
        CHECK.same("its left room", w.room(1, true), 70);
        CHECK.same("its right room", w.room(2, false), 60);
        CHECK.same("in its second crease", w.wish(20, 50, 0, 80), 1);
        CHECK.same("a of 20", w.room(3, true), 10);
        CHECK.same("b of 10", w.room(4, false), 50);
        CHECK.same("in its first crease", w.wish(50, 20, 10, 30), 1);
        CHECK.same("a of 20", w.room(5, true), 50);
        CHECK.same("b of 20", w.room(5, false), 20);
        CHECK.same("folds", w.folds(), 3);
        CHECK.yes("good", w.isGood());
        CHECK.same("around, in the gutter again", w.wish(40, 60, 40, 80), 1);
        CHECK.same("a of 40", w.room(7, true), 60);
    }

    /** A fold with two arms: one ridge beyond it can be made by two folds alone. */
    private static Popupwright withArms() {
        Popupwright w = new Popupwright();
        w.spread(100, 80);
        w.fold(0, 30, 40, 0, 80);
        w.arm(0, true, 5, 0, 80);
        w.arm(0, false, 5, 0, 80);
        return w;
    }

    private static void rooms(Popupwright w, int crease, int left, int right) {
        CHECK.same("left room of " + crease, w.room(crease, true), left);
        CHECK.same("right room of " + crease, w.room(crease, false), right);
    }

    private static void wishTwo() {
        Popupwright w = withArms();
        CHECK.same("two", w.wish(60, 40, 10, 30), 2);
        CHECK.same("folds", w.folds(), 3);
        rooms(w, 3, 60, 50);
        rooms(w, 4, 40, 50);
        rooms(w, 5, 40, 40);
        rooms(w, 6, 20, 10);
        CHECK.yes("good", w.isGood());
        CHECK.same("over its y", w.fold(3, 1, 1, 10, 30), 3);
        CHECK.fails("and no more", IllegalArgumentException.class, () -> w.fold(3, 1, 1, 9, 30));
    }

    private static void wishTwoInItsSecondCrease() {
        Popupwright w = withArms();
        CHECK.same("two", w.wish(30, 60, 0, 80), 2);
        rooms(w, 3, 60, 50);
        rooms(w, 4, 40, 50);
        CHECK.same("the second one lies in crease 4", w.room(6, false), 40);
        rooms(w, 5, 10, 10);
        CHECK.yes("good", w.isGood());
    }

    private static void wishNone() {
        Popupwright w = new Popupwright();
        w.spread(100, 80);
        Class<NoSuchElementException> none = NoSuchElementException.class;
        CHECK.fails("beyond the width", none, () -> w.wish(61, 40, 0, 80));
        CHECK.same("at the width", w.wish(60, 40, 0, 80), 1);
        CHECK.fails("the same again", none, () -> w.wish(60, 40, 0, 80));
        w.arm(0, true, 1, 0, 1);
        CHECK.fails("in a book that does not shut", none, () -> w.wish(10, 10, 50, 60));
        Popupwright clash = SpreadTest.one();
        clash.fold(0, 60, 10, 10, 70);
        CHECK.fails("in a book that clashes", none, () -> clash.wish(10, 10, 75, 80));
        clash.open(18, 9999);
        CHECK.same("torn strips are none", clash.wish(60, 10, 10, 70), 1);
    }

    private static void wishLeavesNoTrace() {
        Popupwright w = withArms();
        CHECK.fails("none", NoSuchElementException.class, () -> w.wish(30, 40, 0, 80));
        CHECK.same("folds", w.folds(), 1);
        CHECK.fails("creases", IndexOutOfBoundsException.class, () -> w.room(3, true));
        CHECK.fails("strips", IndexOutOfBoundsException.class, () -> w.across(4, 0, 0));
        CHECK.same("clashes", w.clashes(), 0);
        CHECK.same("the next fold", w.fold(0, 10, 10, 0, 5), 1);
        rooms(w, 3, 90, 10);
    }

    private static void wishAmongMany() {
        Popupwright w = SpreadTest.row(23);
        CHECK.same("the last one", w.wish(30, 30, 30, 40), 1);
        CHECK.fails("one more", NoSuchElementException.class, () -> w.wish(30, 30, 50, 60));
        Popupwright two = withArms();
        for (int n = 1; n < 22; n++) {
            two.fold(0, 1, 1, 3 * n, 3 * n + 1);
        }
        Popupwright full = withArms();
        for (int n = 1; n < 23; n++) {
            full.fold(0, 1, 1, 3 * n, 3 * n + 1);
        }
        CHECK.same("the last two", two.wish(60, 40, 70, 80), 2);
        CHECK.same("folds", two.folds(), 24);
        CHECK.fails("two where there is room for one", NoSuchElementException.class, () -> full.wish(60, 40, 70, 80));
        CHECK.same("folds", full.folds(), 23);
    }

    private static void wishRefused() {
        Popupwright none = new Popupwright();
        Class<IllegalArgumentException> illegal = IllegalArgumentException.class;
        Class<UnsupportedOperationException> refused = UnsupportedOperationException.class;
        for (int wrong : new int[] {0, 401, -1, Integer.MAX_VALUE, Integer.MIN_VALUE}) {
            CHECK.fails("i " + wrong, illegal, () -> none.wish(wrong, 1, 0, 1));
            CHECK.fails("j " + wrong, illegal, () -> none.wish(1, wrong, 5, 1));
        }
        CHECK.fails("no spread", refused, () -> none.wish(1, 1, 0, 1));
        Popupwright w = SpreadTest.one();
        CHECK.fails("low", refused, () -> w.wish(1, 1, -1, 80));
        CHECK.fails("high", refused, () -> w.wish(1, 1, 0, 81));
        CHECK.fails("low as high", refused, () -> w.wish(1, 1, 20, 20));
        CHECK.fails("high less than low", refused, () -> w.wish(400, 400, 30, 20));
        CHECK.fails("400", NoSuchElementException.class, () -> w.wish(400, 400, 20, 30));
    }

    private static void restores() {
        Popupwright w = SpreadTest.one();
        CHECK.same("by its a", w.restore(2, 20, 5, true, 20, 30), 1);
        rooms(w, 3, 35, 15);
        rooms(w, 4, 5, 55);
        CHECK.same("by its b", w.restore(2, 20, 5, false, 20, 30), 2);
        rooms(w, 5, 25, 5);
        rooms(w, 6, 15, 65);
        CHECK.same("the longest", w.restore(1, 90, 60, true, 10, 70), 3);
        CHECK.same("the shortest", w.restore(0, 2, 1, false, 79, 80), 4);
    }

    private static void restoresRefused() {
        Popupwright w = SpreadTest.one();
        Class<IllegalArgumentException> illegal = IllegalArgumentException.class;
        CHECK.fails("crease 3", IndexOutOfBoundsException.class, () -> w.restore(3, 0, 0, true, 9, 9));
        CHECK.fails("crease -1", IndexOutOfBoundsException.class, () -> w.restore(-1, 2, 1, true, 10, 20));
        CHECK.fails("no b", illegal, () -> w.restore(1, 5, 5, true, 10, 20));
        CHECK.fails("no a", illegal, () -> w.restore(1, 5, 5, false, 10, 20));
        CHECK.fails("a mark of 0", illegal, () -> w.restore(1, 5, 0, true, 10, 20));
        CHECK.fails("a mark beyond", illegal, () -> w.restore(1, 5, 6, true, 10, 20));
        CHECK.fails("too long a", illegal, () -> w.restore(1, 62, 61, true, 10, 20));
        CHECK.fails("too long b", illegal, () -> w.restore(1, 32, 1, true, 10, 20));
        CHECK.fails("too long b, told", illegal, () -> w.restore(1, 32, 31, false, 10, 20));
        CHECK.fails("low", illegal, () -> w.restore(1, 2, 1, true, 9, 20));
        CHECK.fails("high", illegal, () -> w.restore(1, 2, 1, true, 10, 71));
        CHECK.fails("y", illegal, () -> w.restore(1, 2, 1, true, 20, 20));
        CHECK.fails("far below", illegal, () -> w.restore(1, Integer.MIN_VALUE, Integer.MAX_VALUE, true, 10, 20));
        CHECK.fails("far above", illegal, () -> w.restore(1, Integer.MAX_VALUE, Integer.MIN_VALUE, false, 10, 20));
        CHECK.same("none of these was made", w.folds(), 1);
    }

    private static void child(Popupwright w, int years, char due) {
        CHECK.same("for a child of " + years, w.forChild(years), due);
    }

    private static Popupwright small(int a, int b, int high) {
        Popupwright w = new Popupwright();
        w.spread(100, 80);
        w.fold(0, a, b, 0, high);
        return w;
    }

    private static void children() {
        child(small(6, 5, 31), 2, 'p');
        child(small(6, 5, 31), 0, 'p');
        child(small(6, 5, 31), 3, 'y');
        child(small(6, 6, 31), 2, 'y');
        child(small(6, 5, 32), 2, 'y');
        Popupwright w = small(6, 5, 31);
        w.arm(0, true, 10, 10, 13);
        child(w, 2, 'a');
        child(w, 3, 'a');
        child(w, 5, 'a');
        child(w, 6, 'y');
        child(w, 99, 'y');
        Popupwright just = small(6, 6, 31);
        just.arm(0, false, 9, 10, 13);
        child(just, 0, 'y');
        just.arm(0, true, 10, 10, 13);
        child(just, 0, 'a');
        Popupwright second = small(6, 6, 31);
        second.arm(0, false, 10, 10, 13);
        child(second, 5, 'a');
        second.fold(0, 2, 2, 0, 3);
        child(second, 2, 'p');
        second.fold(0, 1, 100, 0, 80);
        child(second, 2, 'g');
        child(second, 99, 'g');
        CHECK.fails("-1", IllegalArgumentException.class, () -> second.forChild(-1));
        CHECK.fails("100", IllegalArgumentException.class, () -> second.forChild(100));
        CHECK.fails("no spread", UnsupportedOperationException.class, () -> new Popupwright().forChild(5));
        CHECK.fails("no spread, 100", IllegalArgumentException.class, () -> new Popupwright().forChild(100));
    }

    private static void tornCounts() {
        Popupwright w = small(6, 5, 31);
        w.open(18, 9999);
        child(w, 2, 'p');
        w.arm(0, true, 10, 10, 13);
        child(w, 5, 'a');
        Popupwright bad = SpreadTest.one();
        bad.fold(0, 60, 10, 10, 70);
        bad.open(18, 9999);
        child(bad, 5, 'y');
    }

    private static void sums() {
        CHECK.same("no folds", new Popupwright().folds(), 0);
        CHECK.same("no scene", new Popupwright().scene(18), 0);
        CHECK.fails("no lengths", ArithmeticException.class, () -> new Popupwright().meanLength());
        Popupwright w = SpreadTest.one();
        CHECK.same("folds", w.folds(), 1);
        CHECK.near("mean", w.meanLength(), 35);
        CHECK.same("scene 0", w.scene(0), 3 * 70 * 65);
        CHECK.same("scene 13", w.scene(13), 3 * (2600 - 1170 + 1560));
        w.arm(0, false, 5, 10, 20);
        CHECK.near("mean with an arm", w.meanLength(), 75.0 / 3);
        CHECK.same("scene 9", w.scene(9), 3 * (40 + 30) * 65 + 4 * (45 + 30) * 65);
        w.fold(1, 7, 4, 10, 20);
        CHECK.near("mean of five", w.meanLength(), 86.0 / 5.0);
        CHECK.fails("scene -1", IllegalArgumentException.class, () -> w.scene(-1));
        CHECK.fails("scene 19", IllegalArgumentException.class, () -> w.scene(19));
        w.open(18, 9999);
        CHECK.fails("torn", ArithmeticException.class, () -> w.meanLength());
        CHECK.same("torn", w.scene(5), 0);
        CHECK.same("torn folds are folds", w.folds(), 2);
    }

    private static void sound() {
        CHECK.yes("without a spread", new Popupwright().isSound());
        CHECK.yes("three", SpreadTest.three().isSound());
        CHECK.yes("many", SpreadTest.row(24).isSound());
        Popupwright w = withArms();
        w.fold(0, 30, 40, 0, 80);
        w.fold(0, 60, 60, 0, 80);
        w.fold(0, 61, 61, 0, 80);
        CHECK.yes("clashing", w.isSound());
        w.open(18, 400);
        CHECK.yes("torn", w.isSound());
    }
}
