/** Promises 9 to 13: what shuts, sticks out and clashes. */
public final class ShutTest {
    private static final Check CHECK = new Check("ShutTest");

    public static void main(String[] args) {
        shuts();
        sticksOut();
        crosses();
        crossesNot();
        liesInLine();
        sharesY();
        lowestClash();
        isGood();
        tornStripsAreNone();
        tornFoldsStickOut();
        refused();
        CHECK.end();
    }

    private static void shuts() {
        Popupwright w = new Popupwright();
        w.spread(100, 80);
        CHECK.yes("an empty book shuts", w.doesShut());
        w.fold(0, 60, 40, 0, 80);
        CHECK.yes("a ridge at the width is inside", w.doesShut());
        w.fold(0, 61, 40, 0, 1);
        CHECK.no("a ridge beyond is not", w.doesShut());
        Popupwright arms = SpreadTest.one();
        arms.arm(0, true, 30, 10, 70);
        CHECK.yes("an arm up to the width", arms.doesShut());
        arms.arm(0, false, 31, 10, 70);
        CHECK.no("an arm beyond", arms.doesShut());
    }

    private static void sticksOut() {
        Popupwright w = SpreadTest.one();
        CHECK.same("inside", w.sticksOut(0), 0);
        w.arm(0, true, 30, 10, 70);
        CHECK.same("an arm up to the width", w.sticksOut(0), 0);
        w.arm(0, false, 42, 10, 11);
        CHECK.same("an arm beyond", w.sticksOut(0), 12);
        w.fold(0, 90, 95, 0, 80);
        CHECK.same("a ridge beyond", w.sticksOut(1), 85);
        w.arm(1, true, 400, 0, 80);
        w.arm(1, false, 3, 0, 80);
        CHECK.same("the longer arm", w.sticksOut(1), 485);
        CHECK.same("the other fold as before", w.sticksOut(0), 12);
    }

    private static int pairs(int crease, int a, int b, int low, int high) {
        Popupwright w = SpreadTest.one();
        w.fold(crease, a, b, low, high);
        CHECK.yes("sound with " + crease + " " + a + " " + b, w.isSound());
        return w.clashes();
    }

    private static void crosses() {
        CHECK.same("a second panel through a first one", pairs(0, 60, 10, 10, 70), 1);
        CHECK.same("a first panel through a second one", pairs(0, 10, 60, 10, 70), 1);
        CHECK.same("just beyond the ends", pairs(0, 41, 29, 10, 70), 1);
        CHECK.same("just beyond the beginning", pairs(0, 41, 1, 10, 70), 1);
        CHECK.same("just beyond, the other way", pairs(0, 39, 31, 10, 70), 1);
    }

    private static void crossesNot() {
        CHECK.same("inside", pairs(0, 39, 29, 10, 70), 0);
        CHECK.same("around", pairs(0, 41, 31, 10, 70), 0);
        CHECK.same("up to the first panel", pairs(0, 40, 29, 10, 70), 1);
        CHECK.same("in the first crease", pairs(1, 20, 30, 10, 70), 0);
        CHECK.same("in the second crease", pairs(2, 40, 20, 10, 70), 0);
    }

    private static void liesInLine() {
        CHECK.same("the same once more", pairs(0, 40, 30, 10, 70), 2);
        CHECK.same("first panels in line", pairs(0, 40, 50, 10, 70), 1);
        CHECK.same("second panels in line", pairs(0, 60, 30, 10, 70), 1);
        Popupwright w = SpreadTest.one();
        w.arm(0, true, 5, 10, 70);
        w.arm(0, false, 5, 10, 70);
        CHECK.same("an arm has a point in common with its panel", w.clashes(), 0);
        w.fold(1, 1, 30, 10, 70);
        CHECK.same("a panel on an arm", w.clashes(), 1);
        w.fold(2, 40, 1, 10, 70);
        CHECK.same("another panel on an arm", w.clashes(), 2);
        CHECK.yes("sound", w.isSound());
    }

    private static void sharesY() {
        CHECK.same("above a line", pairs(0, 40, 30, 70, 80), 0);
        CHECK.same("below a line", pairs(0, 40, 30, 0, 10), 0);
        CHECK.same("more than a line above", pairs(0, 40, 30, 69, 80), 2);
        CHECK.same("more than a line below", pairs(0, 40, 30, 0, 11), 2);
        CHECK.same("crossing, a line in common", pairs(0, 60, 10, 70, 80), 0);
        CHECK.same("crossing, more than a line", pairs(0, 60, 10, 69, 80), 1);
    }

    private static void lowestClash() {
        Popupwright w = SpreadTest.three();
        w.fold(0, 60, 10, 20, 60);
        CHECK.same("clashes", w.clashes(), 2);
        CHECK.same("of 13", w.clashOf(13), 0);
        CHECK.same("of 12", w.clashOf(12), 4);
        CHECK.same("of 4", w.clashOf(4), 12);
        CHECK.same("of 0", w.clashOf(0), 13);
        CHECK.fails("of 1", java.util.NoSuchElementException.class, () -> w.clashOf(1));
        CHECK.fails("of 2", IndexOutOfBoundsException.class, () -> w.clashOf(2));
        CHECK.fails("of -1", IndexOutOfBoundsException.class, () -> w.clashOf(-1));
        CHECK.fails("of 16", IndexOutOfBoundsException.class, () -> w.clashOf(16));
    }

    private static void isGood() {
        Popupwright w = SpreadTest.one();
        CHECK.yes("good", w.isGood());
        w.arm(0, true, 31, 10, 70);
        CHECK.no("does not shut", w.isGood());
        Popupwright clash = SpreadTest.one();
        clash.fold(0, 60, 10, 10, 70);
        CHECK.no("clashes", clash.isGood());
        CHECK.yes("though it shuts", clash.doesShut());
    }

    private static void tornStripsAreNone() {
        Popupwright w = SpreadTest.one();
        w.arm(0, true, 60, 10, 70);
        w.open(18, 400);
        w.fold(0, 60, 10, 10, 70);
        CHECK.yes("the ends of its strips are none", w.doesShut());
        CHECK.same("it clashes with none", w.clashes(), 0);
        CHECK.fails("nor with that", java.util.NoSuchElementException.class, () -> w.clashOf(5));
        CHECK.fails("it has no strip", IndexOutOfBoundsException.class, () -> w.clashOf(0));
        w.mend(0);
        CHECK.same("mended, it clashes", w.clashes(), 1);
        CHECK.no("and does not shut", w.doesShut());
    }

    private static void tornFoldsStickOut() {
        Popupwright w = SpreadTest.one();
        w.fold(0, 90, 95, 0, 80);
        w.arm(0, true, 60, 10, 70);
        CHECK.same("torn", w.open(18, 9999), 2);
        CHECK.same("its arm", w.sticksOut(0), 30);
        CHECK.same("its ridge", w.sticksOut(1), 85);
        w.arm(0, false, 75, 10, 70);
        CHECK.same("an arm made then", w.sticksOut(0), 45);
        w.mend(0);
        CHECK.same("mended, as before", w.sticksOut(0), 45);
        Popupwright in = SpreadTest.one();
        in.arm(0, true, 30, 10, 70);
        CHECK.same("torn inside", in.open(18, 9999) + in.sticksOut(0), 1);
    }

    private static void refused() {
        Popupwright none = new Popupwright();
        CHECK.fails("doesShut", UnsupportedOperationException.class, () -> none.doesShut());
        CHECK.fails("isGood", UnsupportedOperationException.class, () -> none.isGood());
        CHECK.fails("sticksOut", IndexOutOfBoundsException.class, () -> none.sticksOut(0));
        CHECK.same("clashes", none.clashes(), 0);
        Popupwright w = SpreadTest.one();
        CHECK.fails("sticksOut 1", IndexOutOfBoundsException.class, () -> w.sticksOut(1));
        CHECK.fails("sticksOut -1", IndexOutOfBoundsException.class, () -> w.sticksOut(-1));
    }
}
