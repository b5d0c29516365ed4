/** Promises 36 to 40 and 47: how folds tire, tear and are mended. */
public final class LivesTest {
    private static final Check CHECK = new Check("LivesTest");

    public static void main(String[] args) {
        paper();
        tires();
        tiresWithArms();
        cuts();
        tears();
        lasts();
        mends();
        mostMends();
        tornStripsAndTheRest();
        refused();
        share();
        CHECK.end();
    }

    private static void paper() {
        Popupwright w = new Popupwright();
        CHECK.same("before", w.setPaper(100), 200);
        CHECK.same("then", w.setPaper(400), 100);
        CHECK.fails("99", IllegalArgumentException.class, () -> w.setPaper(99));
        CHECK.fails("401", IllegalArgumentException.class, () -> w.setPaper(401));
        CHECK.same("as before", w.setPaper(200), 400);
    }

    private static void tires() {
        Popupwright w = SpreadTest.one();
        CHECK.same("new", w.tired(0), 0);
        CHECK.same("torn", w.open(18, 1), 0);
        CHECK.same("once", w.tired(0), 36);
        w.open(1, 9999);
        CHECK.same("often", w.tired(0), 36 + 19998 - 36 + 2);
        w.fold(1, 5, 5, 10, 70);
        CHECK.same("a later one is new", w.tired(1), 0);
        w.open(3, 10);
        CHECK.same("and tires", w.tired(1), 60);
    }

    private static void tiresWithArms() {
        Popupwright w = SpreadTest.three();
        w.arm(0, true, 5, 10, 20);
        w.arm(1, false, 5, 10, 20);
        w.arm(1, true, 5, 10, 20);
        w.open(10, 3);
        CHECK.same("one arm", w.tired(0), 120);
        CHECK.same("two arms", w.tired(1), 180);
        CHECK.same("none", w.tired(2), 60);
    }

    private static void cuts() {
        Popupwright w = SpreadTest.one();
        w.arm(0, true, 5, 10, 20);
        w.setPaper(199);
        w.open(1, 1);
        CHECK.same("1.99 is 1, twice", w.tired(0), 2);
        w.open(17, 1);
        CHECK.same("33.83 is 33, twice", w.tired(0), 68);
    }

    private static void tears() {
        Popupwright w = SpreadTest.one();
        w.setPaper(100);
        CHECK.same("nearly torn", w.open(1, 9999) + w.open(1, 9999), 0);
        CHECK.same("tired", w.tired(0), 19998);
        CHECK.same("one less", w.open(1, 1), 0);
        CHECK.same("torn", w.open(1, 1), 1);
        CHECK.same("tired", w.tired(0), 20000);
        w.open(18, 9999);
        CHECK.same("no more", w.tired(0), 20000);
        Popupwright over = SpreadTest.one();
        over.setPaper(400);
        CHECK.same("torn at once", over.open(18, 9999), 1);
        CHECK.same("72 times 278", over.tired(0), 20016);
    }

    private static void lasts() {
        Popupwright w = SpreadTest.one();
        CHECK.same("new", w.lasts(0, 18), 555);
        CHECK.same("step 1", w.lasts(0, 1), 9999);
        CHECK.same("openings", w.open(18, 555), 0);
        CHECK.same("none", w.lasts(0, 18), 0);
        CHECK.same("but less wide", w.lasts(0, 9), 1);
        w.setPaper(100);
        CHECK.same("a lighter paper", w.lasts(0, 1), 19);
        w.arm(0, true, 5, 10, 20);
        CHECK.same("with an arm", w.lasts(0, 1), 9);
        w.arm(0, false, 5, 10, 20);
        CHECK.same("with two", w.lasts(0, 1), 6);
        CHECK.same("so it is", w.open(1, 6), 0);
        CHECK.same("no more", w.open(1, 1), 1);
        CHECK.fails("torn", UnsupportedOperationException.class, () -> w.lasts(0, 1));
    }

    private static void mends() {
        Popupwright w = SpreadTest.one();
        CHECK.fails("not torn", UnsupportedOperationException.class, () -> w.mend(0));
        w.setPaper(300);
        w.open(17, 9999);
        CHECK.same("51 times 393", w.tired(0), 20043);
        CHECK.same("mended", w.mend(0), 1);
        CHECK.same("half, cut", w.tired(0), 10021);
        CHECK.fails("not torn any more", UnsupportedOperationException.class, () -> w.mend(0));
        CHECK.same("it tires again", w.open(1, 1) + w.tired(0), 10024);
    }

    private static void mostMends() {
        Popupwright w = SpreadTest.three();
        for (int n = 1; n <= 3; n++) {
            w.open(18, 9999);
            CHECK.same("mended", w.mend(0), n);
            CHECK.same("the other one, too", w.mend(1), n);
        }
        CHECK.same("torn again", w.open(18, 9999), 3);
        CHECK.fails("a fourth time", UnsupportedOperationException.class, () -> w.mend(0));
        CHECK.same("the third one for the first time", w.mend(2), 1);
        CHECK.same("it stays as tired", w.tired(0) >= 20000 ? 1 : 0, 1);
    }

    private static void tornStripsAndTheRest() {
        Popupwright w = SpreadTest.one();
        w.arm(0, true, 5, 10, 20);
        w.open(18, 9999);
        for (int strip = 0; strip < 4; strip++) {
            int n = strip;
            CHECK.fails("strip " + n, IndexOutOfBoundsException.class, () -> w.across(n, 0, 0));
            CHECK.fails("pull on " + n, IndexOutOfBoundsException.class, () -> w.pull(n, 0, 1, 0));
        }
        CHECK.fails("its arm stays", UnsupportedOperationException.class, () -> w.arm(0, true, 5, 10, 20));
        CHECK.same("it may have another", w.arm(0, false, 5, 10, 20), 3);
        CHECK.same("its creases stay", w.fold(1, 5, 5, 10, 20), 1);
        CHECK.same("its fold stays", w.waiting(0), 1);
        CHECK.same("the strips of the new one", w.clashes() + w.across(4, 5, 9), 45 * 65);
        w.mend(0);
        CHECK.same("its strips are back", w.across(2, 5, 9), 40 * 65);
        CHECK.same("all of them", w.across(3, 5, 9), 45 * 65);
    }

    private static void refused() {
        Popupwright none = new Popupwright();
        Class<IllegalArgumentException> illegal = IllegalArgumentException.class;
        CHECK.fails("no spread", UnsupportedOperationException.class, () -> none.open(1, 1));
        CHECK.fails("no spread, no step", illegal, () -> none.open(0, 1));
        CHECK.fails("no spread, no times", illegal, () -> none.open(1, 0));
        Popupwright w = SpreadTest.one();
        for (int step : new int[] {0, 19, -1}) {
            CHECK.fails("open to " + step, illegal, () -> w.open(step, 1));
            CHECK.fails("lasts to " + step, illegal, () -> w.lasts(0, step));
            CHECK.fails("lasts of none", IndexOutOfBoundsException.class, () -> w.lasts(1, step));
        }
        CHECK.fails("10000 times", illegal, () -> w.open(1, 10000));
        CHECK.fails("-1 times", illegal, () -> w.open(1, -1));
        CHECK.same("nothing tired it", w.tired(0), 0);
        for (int fold : new int[] {-1, 1, 24}) {
            CHECK.fails("tired " + fold, IndexOutOfBoundsException.class, () -> w.tired(fold));
            CHECK.fails("mend " + fold, IndexOutOfBoundsException.class, () -> w.mend(fold));
        }
        w.open(18, 9999);
        CHECK.fails("torn, no step", illegal, () -> w.lasts(0, 0));
    }

    private static void share() {
        CHECK.fails("no folds", ArithmeticException.class, () -> new Popupwright().tornShare());
        Popupwright w = SpreadTest.one();
        CHECK.near("none", w.tornShare(), 0);
        w.arm(0, true, 1, 10, 20);
        w.fold(1, 5, 5, 10, 20);
        w.fold(1, 6, 6, 10, 20);
        w.open(18, 300);
        CHECK.near("a third, as a float", w.tornShare(), (float) 1 / (float) 3);
        w.open(18, 300);
        CHECK.near("all", w.tornShare(), 1);
    }
}
