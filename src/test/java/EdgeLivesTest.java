/**
 * Each boundary that the document names in 'Lives' and in the promises 36 to 40 and 47.
 */
public final class EdgeLivesTest {
    private static final Check CHECK = new Check("EdgeLivesTest");
    private static final Class<ArithmeticException> ARITHMETIC = ArithmeticException.class;
    private static final Class<IndexOutOfBoundsException> INDEX = IndexOutOfBoundsException.class;
    private static final Class<IllegalArgumentException> ILLEGAL = IllegalArgumentException.class;
    private static final Class<UnsupportedOperationException> UNSUPPORTED = UnsupportedOperationException.class;
    private static final int LEAST = Integer.MIN_VALUE;
    private static final int MOST = Integer.MAX_VALUE;

    public static void main(String[] args) {
        weights();
        openSteps();
        openTimes();
        openOrderOfExceptions();
        cut();
        arms();
        tornFrom();
        tiresNoMore();
        tornThen();
        tiredRefused();
        lastsRefused();
        lasts();
        lastsWithArms();
        mendRefused();
        halfAsTired();
        threeTimes();
        tornStrips();
        whatStays();
        shares();
        CHECK.end();
    }

    private static void weights() {
        CHECK.says("A paper has a weight, 100 to 400. setPaper: Returns the one before.");
        Popupwright w = Books.one();
        CHECK.same("100", w.setPaper(100), 200);
        CHECK.same("400", w.setPaper(400), 100);
        CHECK.same("it is so heavy", w.open(18, 1) + w.tired(0), 72);
        CHECK.same("then", w.setPaper(200), 400);
        for (int weight : new int[] {99, 401, 0, -200, LEAST, MOST}) {
            CHECK.refused("weight " + weight, ILLEGAL, Books::rich, b -> b.setPaper(weight));
            CHECK.refused("weight " + weight + " without a spread", ILLEGAL, Books::none, b -> b.setPaper(weight));
        }
    }

    private static Popupwright opened(int weight, int step, int times) {
        Popupwright w = Books.one();
        w.setPaper(weight);
        w.open(step, times);
        return w;
    }

    private static void openSteps() {
        CHECK.says("open: step: to which it is opened, 1 to 18");
        CHECK.same("1", opened(200, 1, 1).tired(0), 2);
        CHECK.same("18", opened(200, 18, 1).tired(0), 36);
        for (int step : new int[] {0, 19, -1, LEAST, MOST}) {
            CHECK.refused("step " + step, ILLEGAL, Books::rich, w -> w.open(step, 1));
            CHECK.refused("step " + step, ILLEGAL, Books::torn, w -> w.open(step, 9999));
        }
    }

    private static void openTimes() {
        CHECK.says("open: times: how often, 1 to 9999");
        CHECK.same("1", opened(100, 1, 1).tired(0), 1);
        CHECK.same("9999", opened(100, 1, 9999).tired(0), 9999);
        for (int times : new int[] {0, 10000, -1, LEAST, MOST}) {
            CHECK.refused("times " + times, ILLEGAL, Books::rich, w -> w.open(1, times));
        }
    }

    private static void openOrderOfExceptions() {
        CHECK.says("open: Throws UnsupportedOperationException if there is no spread");
        CHECK.refused("no spread", UNSUPPORTED, Books::none, w -> w.open(1, 1));
        CHECK.same("an empty one has no folds that tear", Books.empty().open(18, 9999), 0);
        CHECK.says("If several exceptions apply, the one that is listed first is thrown: open");
        CHECK.refused("no step, no spread", ILLEGAL, Books::none, w -> w.open(0, 1));
        CHECK.refused("no times, no spread", ILLEGAL, Books::none, w -> w.open(1, 10000));
    }

    private static void cut() {
        CHECK.says("tires each fold that is not torn by k times the weight / 100, cut");
        CHECK.same("1 x 199 / 100", opened(199, 1, 1).tired(0), 1);
        CHECK.same("1 x 200 / 100", opened(200, 1, 1).tired(0), 2);
        CHECK.same("3 x 133 / 100", opened(133, 3, 1).tired(0), 3);
        CHECK.same("3 x 134 / 100", opened(134, 3, 1).tired(0), 4);
        CHECK.same("cut each time", opened(199, 1, 50).tired(0), 50);
        CHECK.same("17 x 399 / 100", opened(399, 17, 1).tired(0), 67);
    }

    private static void arms() {
        CHECK.says("and by as much again for each of its arms");
        Popupwright w = Books.one();
        w.setPaper(199);
        w.open(1, 1);
        CHECK.same("no arm", w.tired(0), 1);
        w.arm(0, false, 1, 10, 11);
        w.open(1, 1);
        CHECK.same("one arm: cut, then twice", w.tired(0), 1 + 2);
        w.arm(0, true, 1, 10, 11);
        w.open(1, 1);
        CHECK.same("two arms", w.tired(0), 1 + 2 + 3);
        w.fold(1, 1, 1, 10, 11);
        w.open(1, 1);
        CHECK.same("arms of others do not count", w.tired(1), 1);
    }

    private static void tornFrom() {
        CHECK.says("from 20000 on, it is torn");
        Popupwright w = opened(200, 1, 9999);
        CHECK.same("19998", w.tired(0), 19998);
        w.setPaper(100);
        CHECK.same("19999: not torn", w.open(1, 1), 0);
        CHECK.same("it has strips", w.across(0, 0, 9), 2600);
        CHECK.same("20000: torn", w.open(1, 1), 1);
        CHECK.same("so tired", w.tired(0), 20000);
        CHECK.fails("it has no strips", INDEX, () -> w.across(0, 0, 9));
        Popupwright exact = Books.one();
        CHECK.same("4 times 4999: not torn", exact.open(2, 4999), 0);
        CHECK.same("4 times 5000: torn", exact.open(2, 1), 1);
    }

    private static void tiresNoMore() {
        CHECK.says("it is torn, and tires no more");
        Popupwright w = opened(400, 18, 9999);
        CHECK.same("278 times 72", w.tired(0), 20016);
        CHECK.same("still torn", w.open(18, 9999), 1);
        CHECK.same("still so tired", w.tired(0), 20016);
        w.fold(0, 50, 40, 10, 70);
        CHECK.same("another one tires", w.open(18, 1) + w.tired(1), 73);
        Popupwright arms = Books.one();
        arms.arm(0, true, 1, 10, 11);
        arms.arm(0, false, 1, 10, 11);
        arms.setPaper(400);
        arms.open(18, 92);
        CHECK.same("92 times 216: not torn", arms.tired(0), 19872);
        arms.open(18, 2);
        CHECK.same("93 times 216: torn by its arms, and once alone", arms.tired(0), 20088);
    }

    private static void tornThen() {
        CHECK.says("open: Returns how many folds are torn then.");
        CHECK.same("no fold", Books.empty().open(18, 9999), 0);
        CHECK.same("the one with arms first", Books.rich().open(18, 352), 2);
        CHECK.same("then all", Books.rich().open(18, 9999), 3);
        CHECK.same("those that were torn count", Books.torn().open(1, 1), 1);
        CHECK.same("a full book", Books.full().open(18, 9999), 24);
        Popupwright w = Books.torn();
        w.mend(0);
        CHECK.same("those that were mended do not", w.open(1, 1), 0);
    }

    private static void tiredRefused() {
        CHECK.says("tired: Throws IndexOutOfBoundsException if there is no such fold");
        CHECK.same("the last one", Books.rich().tired(2), 1040);
        CHECK.same("a new one", Books.three().tired(2), 0);
        CHECK.same("the last one of a full book", Books.full().tired(23), 0);
        for (int fold : new int[] {-1, 3, 23, 24, LEAST, MOST}) {
            CHECK.refused("fold " + fold, INDEX, Books::rich, w -> w.tired(fold));
        }
        CHECK.refused("without a spread", INDEX, Books::none, w -> w.tired(0));
        CHECK.refused("24 of a full book", INDEX, Books::full, w -> w.tired(24));
    }

    private static void lastsRefused() {
        CHECK.says("lasts: Throws IndexOutOfBoundsException if there is no such fold");
        for (int fold : new int[] {-1, 3, 23, 24, LEAST, MOST}) {
            CHECK.refused("fold " + fold, INDEX, Books::rich, w -> w.lasts(fold, 1));
            CHECK.refused("fold " + fold + ", no step", INDEX, Books::torn, w -> w.lasts(fold, 0));
        }
        CHECK.refused("without a spread", INDEX, Books::none, w -> w.lasts(0, 1));
        CHECK.says("lasts: step: to which it is opened, 1 to 18");
        for (int step : new int[] {0, 19, -1, LEAST, MOST}) {
            CHECK.refused("step " + step, ILLEGAL, Books::rich, w -> w.lasts(0, step));
            CHECK.refused("step " + step + ", torn", ILLEGAL, Books::torn, w -> w.lasts(0, step));
        }
        CHECK.says("lasts: Throws UnsupportedOperationException if it is torn");
        CHECK.refused("step 1", UNSUPPORTED, Books::torn, w -> w.lasts(0, 1));
        CHECK.refused("step 18", UNSUPPORTED, Books::torn, w -> w.lasts(0, 18));
        CHECK.same("one that was mended", Books.torn().lasts(2, 18), (19999 - 10024) / 54);
    }

    private static void lasts() {
        CHECK.says("Returns how often it can be opened without being torn.");
        for (int weight : new int[] {100, 199, 200, 400}) {
            for (int step : new int[] {1, 2, 17, 18}) {
                int each = step * weight / 100;
                Popupwright w = Books.one();
                w.setPaper(weight);
                CHECK.same("a new one", w.lasts(0, step), 19999 / each);
                int left = w.lasts(0, step);
                for (int n = left; n > 0; n -= 9999) {
                    CHECK.same("so often it is not torn", w.open(step, Math.min(n, 9999)), 0);
                }
                CHECK.same("then no more", w.lasts(0, step), 0);
                CHECK.same("once more, it is torn", w.open(step, 1), 1);
            }
        }
        CHECK.same("the most", opened(100, 1, 1).lasts(0, 1), 19998);
    }

    private static void lastsWithArms() {
        CHECK.says("Returns how often it can be opened without being torn: with its arms");
        Popupwright w = Books.one();
        w.open(18, 555);
        CHECK.same("19980", w.tired(0), 19980);
        CHECK.same("19 left, 2 each", w.lasts(0, 1), 9);
        CHECK.same("19 left, 18 each", w.lasts(0, 9), 1);
        CHECK.same("19 left, 20 each", w.lasts(0, 10), 0);
        w.arm(0, true, 1, 10, 11);
        CHECK.same("19 left, 4 each", w.lasts(0, 1), 4);
        w.arm(0, false, 1, 10, 11);
        CHECK.same("19 left, 6 each", w.lasts(0, 1), 3);
        CHECK.same("so often", w.open(1, 3), 0);
        CHECK.same("and no more", w.open(1, 1), 1);
    }

    private static void mendRefused() {
        CHECK.says("mend: Throws IndexOutOfBoundsException if there is no such fold");
        for (int fold : new int[] {-1, 3, 23, 24, LEAST, MOST}) {
            CHECK.refused("fold " + fold, INDEX, Books::torn, w -> w.mend(fold));
        }
        CHECK.refused("without a spread", INDEX, Books::none, w -> w.mend(0));
        CHECK.says("mend: Throws UnsupportedOperationException if it is not torn");
        CHECK.refused("a new one", UNSUPPORTED, Books::three, w -> w.mend(0));
        CHECK.refused("a tired one", UNSUPPORTED, Books::torn, w -> w.mend(1));
        CHECK.refused("one that was mended", UNSUPPORTED, Books::torn, w -> w.mend(2));
        CHECK.refused("at 19999", UNSUPPORTED, EdgeLivesTest::nearlyTorn, w -> w.mend(0));
        Popupwright w = nearlyTorn();
        w.open(1, 1);
        CHECK.same("at 20000", w.mend(0), 1);
    }

    private static Popupwright nearlyTorn() {
        Popupwright w = opened(200, 1, 9999);
        w.setPaper(100);
        w.open(1, 1);
        return w;
    }

    private static void halfAsTired() {
        CHECK.says("It can be mended, by which it is half as tired, cut");
        Popupwright even = nearlyTorn();
        even.open(1, 1);
        even.mend(0);
        CHECK.same("half of 20000", even.tired(0), 10000);
        Popupwright odd = opened(300, 17, 393);
        CHECK.same("393 times 51", odd.tired(0), 20043);
        odd.mend(0);
        CHECK.same("half of 20043, cut", odd.tired(0), 10021);
        CHECK.same("it is not torn", odd.open(1, 1), 0);
        CHECK.same("and tires", odd.tired(0), 10024);
    }

    private static Popupwright mended(int times) {
        Popupwright w = Books.rich();
        for (int n = 0; n < times; n++) {
            w.open(18, 9999);
            w.mend(1);
        }
        w.open(18, 9999);
        return w;
    }

    private static void threeTimes() {
        CHECK.says("at most 3 times. Returns how often it was mended. .. or was mended 3 times");
        CHECK.same("once", mended(0).mend(1), 1);
        CHECK.same("twice", mended(1).mend(1), 2);
        CHECK.same("three times", mended(2).mend(1), 3);
        CHECK.refused("four times", UNSUPPORTED, () -> mended(3), w -> w.mend(1));
        CHECK.same("another one", mended(3).mend(0), 1);
        CHECK.refused("not torn, and mended 3 times", UNSUPPORTED, EdgeLivesTest::mendedAtLast, b -> b.mend(1));
    }

    private static Popupwright mendedAtLast() {
        Popupwright w = mended(2);
        w.mend(1);
        return w;
    }

    private static void tornStrips() {
        CHECK.says("Strips of torn folds are none");
        for (int strip = 0; strip < 4; strip++) {
            int n = strip;
            CHECK.refused("across of " + n, INDEX, Books::torn, w -> w.across(n, 0, 9));
            CHECK.refused("picture on " + n, INDEX, Books::torn, w -> w.picture(n, 0, 1, 10, 11, 1));
            CHECK.refused("pull on " + n, INDEX, Books::torn, w -> w.pull(n, 0, 1, 1));
            CHECK.refused("clashOf " + n, INDEX, Books::torn, w -> w.clashOf(n));
        }
        CHECK.near("the mean of the others", Books.torn().meanLength(), (15 + 20 + 50 + 10 + 5) / 5.0);
        Popupwright w = Books.torn();
        w.mend(0);
        CHECK.same("mended, they are back", w.across(2, 25, 9), 2600);
        CHECK.near("all of them", w.meanLength(), (100 + 30 + 40 + 25) / 8.0);
    }

    private static void whatStays() {
        CHECK.says("their creases, nets and arms stay");
        CHECK.same("its crease", Books.torn().fold(1, 60, 30, 10, 70), 3);
        CHECK.same("its net", Books.torn().netAt(0, 's'), 0);
        CHECK.same("its paper", Books.torn().paper(), Books.rich().paper());
        CHECK.fails("its arm", UNSUPPORTED, () -> Books.torn().arm(0, true, 1, 10, 11));
        CHECK.same("the other panel", Books.torn().arm(0, false, 1, 10, 11), 3);
        CHECK.same("what its arm sticks out", Books.torn().sticksOut(0), 0);
        Popupwright w = Books.torn();
        w.arm(0, false, 40, 10, 11);
        CHECK.same("what an arm sticks out that is made then", w.sticksOut(0), 10);
        CHECK.same("folds", Books.torn().folds(), 3);
        CHECK.same("plates of its pictures", Books.torn().plates(0), 3);
    }

    private static void shares() {
        CHECK.says("tornShare: Throws ArithmeticException if there are none; both converted to float");
        CHECK.refused("no spread", ARITHMETIC, Books::none, w -> w.tornShare());
        CHECK.refused("no fold", ARITHMETIC, Books::empty, w -> w.tornShare());
        CHECK.near("none", Books.rich().tornShare(), 0);
        CHECK.near("one of three", Books.torn().tornShare(), 1f / 3f);
        CHECK.near("two of three", opened3(352).tornShare(), 2f / 3f);
        CHECK.near("all", opened3(9999).tornShare(), 1);
    }

    private static Popupwright opened3(int times) {
        Popupwright w = Books.rich();
        w.open(18, times);
        return w;
    }
}
