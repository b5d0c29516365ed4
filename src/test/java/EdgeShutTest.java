import java.util.NoSuchElementException;

/**
 * Each boundary that the document names in 'Shut, clashes' and in the promises 9 to 13.
 */
public final class EdgeShutTest {
    private static final Check CHECK = new Check("EdgeShutTest");
    private static final Class<IndexOutOfBoundsException> INDEX = IndexOutOfBoundsException.class;
    private static final Class<NoSuchElementException> MISSING = NoSuchElementException.class;
    private static final Class<UnsupportedOperationException> UNSUPPORTED = UnsupportedOperationException.class;
    private static final int LEAST = Integer.MIN_VALUE;
    private static final int MOST = Integer.MAX_VALUE;

    public static void main(String[] args) {
        ridgeInside();
        armsInside();
        withoutASpread();
        sticksOutOfFolds();
        crossesFirstPanels();
        crossesSecondPanels();
        crossesArms();
        crossesInY();
        inLine();
        inLineInY();
        pagesClashWithNothing();
        pairs();
        lowestClash();
        lowestClashRefused();
        good();
        worse();
        torn();
        CHECK.end();
    }

    private static Popupwright ridge(int a, int b) {
        Popupwright w = Books.empty();
        w.fold(0, a, b, 0, 80);
        return w;
    }

    private static void ridgeInside() {
        CHECK.says("A point is inside if, shut, i + j is at most the width of a page.");
        CHECK.yes("a ridge at the width", ridge(60, 40).doesShut());
        CHECK.no("a ridge beyond, by i", ridge(61, 40).doesShut());
        CHECK.no("a ridge beyond, by j", ridge(60, 41).doesShut());
        CHECK.yes("an empty book", Books.empty().doesShut());
        CHECK.says("Returns how much more than the width the greatest i + j of its ends is, 0 if it is not.");
        CHECK.same("a ridge at the width", ridge(60, 40).sticksOut(0), 0);
        CHECK.same("a ridge beyond", ridge(61, 40).sticksOut(0), 1);
        CHECK.same("a ridge far inside", ridge(1, 1).sticksOut(0), 0);
        CHECK.same("a ridge as far out as can be", ridge(100, 100).sticksOut(0), 100);
    }

    private static void armsInside() {
        CHECK.says("The book shuts if the ends of all strips are inside.");
        for (int n = 0; n < 2; n++) {
            boolean isFirst = n == 0;
            Popupwright at = Books.three();
            at.arm(0, isFirst, 30, 10, 70);
            CHECK.yes("an arm up to the width", at.doesShut());
            CHECK.same("it does not stick out", at.sticksOut(0), 0);
            Popupwright beyond = Books.three();
            beyond.arm(0, isFirst, 31, 10, 11);
            CHECK.no("an arm beyond", beyond.doesShut());
            CHECK.same("by 1", beyond.sticksOut(0), 1);
            CHECK.same("not the others", beyond.sticksOut(1) + beyond.sticksOut(2), 0);
            beyond.arm(0, !isFirst, 33, 10, 11);
            CHECK.same("the longer one tells", beyond.sticksOut(0), 3);
        }
        Popupwright last = Books.three();
        last.arm(2, true, 10, 20, 60);
        CHECK.yes("the last fold, up to the width", last.doesShut());
        last.arm(2, false, 11, 20, 60);
        CHECK.no("the very last strip beyond", last.doesShut());
    }

    private static void withoutASpread() {
        CHECK.says("doesShut, isGood: Throws UnsupportedOperationException if there is no spread");
        CHECK.refused("doesShut", UNSUPPORTED, Books::none, w -> w.doesShut());
        CHECK.refused("isGood", UNSUPPORTED, Books::none, w -> w.isGood());
        CHECK.yes("an empty book shuts", Books.empty().doesShut());
        CHECK.yes("an empty book is good", Books.empty().isGood());
        CHECK.same("nothing clashes without a spread", Books.none().clashes(), 0);
    }

    private static void sticksOutOfFolds() {
        CHECK.says("sticksOut: Throws IndexOutOfBoundsException if there is no such fold");
        CHECK.same("the last one", Books.rich().sticksOut(2), 0);
        for (int fold : new int[] {-1, 3, 23, 24, LEAST, MOST}) {
            CHECK.refused("fold " + fold, INDEX, Books::rich, w -> w.sticksOut(fold));
        }
        CHECK.refused("without a spread", INDEX, Books::none, w -> w.sticksOut(0));
        CHECK.refused("of an empty book", INDEX, Books::empty, w -> w.sticksOut(0));
        CHECK.same("23 of a full book", Books.full().sticksOut(23), 0);
        CHECK.refused("24 of a full book", INDEX, Books::full, w -> w.sticksOut(24));
    }

    /** Clashes of one more fold with the fold whose ridge is at (40, 30). */
    private static int with(int crease, int a, int b) {
        Popupwright w = Books.one();
        w.fold(crease, a, b, 10, 70);
        CHECK.yes("sound", w.isSound());
        return w.clashes();
    }

    private static void crossesFirstPanels() {
        CHECK.says("the one crosses the other one strictly between the ends of both");
        CHECK.same("just behind the beginning of its first panel", with(0, 60, 1), 1);
        CHECK.same("just ahead of its end", with(0, 60, 29), 1);
        CHECK.same("just beyond, along the left way", with(0, 41, 10), 1);
        CHECK.same("short of it", with(0, 39, 10), 0);
        CHECK.same("from its end on", with(1, 20, 30), 0);
        CHECK.same("from it on, in its crease", with(1, 20, 10), 0);
    }

    private static void crossesSecondPanels() {
        CHECK.says("the one crosses the other one strictly between the ends of both");
        CHECK.same("just behind the beginning of its second panel", with(0, 1, 60), 1);
        CHECK.same("just ahead of its end", with(0, 39, 60), 1);
        CHECK.same("just beyond, along the right way", with(0, 10, 31), 1);
        CHECK.same("short of it", with(0, 10, 29), 0);
        CHECK.same("from its end on", with(2, 40, 20), 0);
        CHECK.same("from it on, in its crease", with(2, 10, 20), 0);
    }

    /** The first arm of the fold goes from (40, 30) to (40, 55); one more fold crosses it, or not. */
    private static int withArm(int a, int b) {
        Popupwright w = Books.one();
        w.arm(0, true, 25, 10, 70);
        w.fold(0, a, b, 10, 70);
        CHECK.yes("sound", w.isSound());
        return w.clashes();
    }

    /** A fold within the other one, its ridge at (a, b), with an arm of this length. */
    private static int within(int a, int b, boolean isFirst, int length) {
        Popupwright w = Books.one();
        w.fold(0, a, b, 10, 70);
        w.arm(1, isFirst, length, 10, 70);
        CHECK.yes("sound", w.isSound());
        return w.clashes();
    }

    private static void crossesArms() {
        CHECK.says("strictly between the ends of both");
        CHECK.same("just behind the beginning of an arm", withArm(60, 31), 1);
        CHECK.same("just ahead of its end", withArm(60, 54), 1);
        CHECK.same("at its end", withArm(60, 55), 0);
        CHECK.same("beyond its end", withArm(60, 56), 0);
        CHECK.same("just beyond it, along the left way", withArm(41, 50), 1);
        CHECK.same("an arm up to the first panel", within(20, 10, false, 20), 0);
        CHECK.same("an arm through the first panel", within(20, 10, false, 21), 1);
        CHECK.same("an arm up to the second panel", within(20, 10, true, 20), 0);
        CHECK.same("an arm through the second panel", within(20, 10, true, 21), 1);
        CHECK.same("an arm of 1 up to the first panel", within(39, 10, false, 1), 0);
        CHECK.same("an arm of 2 through the first panel", within(39, 10, false, 2), 1);
        CHECK.same("an arm of 1 up to the second panel", within(20, 29, true, 1), 0);
        CHECK.same("an arm of 2 through the second panel", within(20, 29, true, 2), 1);
    }

    private static int crossing(int low, int high) {
        Popupwright w = Books.one();
        w.fold(0, 60, 10, low, high);
        return w.clashes();
    }

    private static void crossesInY() {
        CHECK.says("and their parts of y have more than a line in common");
        CHECK.same("a line at its upper edge", crossing(70, 80), 0);
        CHECK.same("more than a line", crossing(69, 80), 1);
        CHECK.same("a line at its lower edge", crossing(0, 10), 0);
        CHECK.same("more than a line", crossing(0, 11), 1);
        CHECK.same("within", crossing(30, 31), 1);
        CHECK.same("around", crossing(0, 80), 1);
    }

    private static void inLine() {
        CHECK.says("or if they go along the same way, lie in one line, and have more than a point in common there");
        Popupwright first = Books.one();
        first.fold(2, 40, 20, 10, 70);
        CHECK.same("a first panel goes on where the other one ends", first.clashes(), 0);
        first.arm(0, true, 1, 10, 70);
        CHECK.same("an arm has a point in common with its own panel, and 1 with the other one", first.clashes(), 1);
        Popupwright second = Books.one();
        second.fold(1, 20, 30, 10, 70);
        CHECK.same("a second panel goes on where the other one ends", second.clashes(), 0);
        second.arm(0, false, 1, 10, 70);
        CHECK.same("an arm has a point in common with its own panel, and 1 with the other one", second.clashes(), 1);
        CHECK.same("one panel in the other one", with(0, 40, 1), 1);
        CHECK.same("beside it", with(0, 39, 1), 0);
        CHECK.same("the same fold once more: both panels", with(0, 40, 30), 2);
        Popupwright apart = Books.one();
        apart.fold(2, 40, 40, 10, 70);
        apart.fold(0, 40, 20, 10, 70);
        CHECK.same("one line, but apart from each other", apart.clashes(), 1);
    }

    private static int again(int low, int high) {
        Popupwright w = Books.one();
        w.fold(0, 40, 30, low, high);
        return w.clashes();
    }

    private static void inLineInY() {
        CHECK.says("and more than a line of y");
        CHECK.same("a line at its upper edge", again(70, 80), 0);
        CHECK.same("more than a line", again(69, 80), 2);
        CHECK.same("a line at its lower edge", again(0, 10), 0);
        CHECK.same("more than a line", again(0, 11), 2);
        CHECK.same("within", again(30, 31), 2);
    }

    private static void pagesClashWithNothing() {
        CHECK.says("Pages clash with nothing.");
        CHECK.same("an empty book", Books.empty().clashes(), 0);
        CHECK.same("a fold that begins on both pages", Books.one().clashes(), 0);
        CHECK.same("a fold as large as both pages", ridge(100, 100).clashes(), 0);
        CHECK.fails("with none", MISSING, () -> ridge(100, 100).clashOf(0));
    }

    private static void pairs() {
        CHECK.says("Returns the number of pairs.");
        Popupwright w = Books.empty();
        for (int n = 0; n < 24; n++) {
            w.fold(0, 20, 20, 0, 80);
            CHECK.same("of " + (n + 1) + " alike", w.clashes(), (n + 1) * n);
        }
        CHECK.same("the lowest one of the last one", w.clashOf(93), 1);
        CHECK.same("the lowest one of the first one", w.clashOf(0), 4);
    }

    private static void lowestClash() {
        CHECK.says("Returns the lowest strip that clashes with a strip.");
        Popupwright w = Books.three();
        w.fold(0, 40, 50, 20, 60);
        w.fold(0, 40, 30, 60, 80);
        CHECK.same("below it", w.clashOf(12), 0);
        CHECK.same("above it, though there is one more", w.clashOf(0), 12);
        CHECK.same("of its second panel", w.clashOf(13), 8);
        CHECK.same("of the last one", w.clashOf(17), 1);
        CHECK.same("the strip 0 is a strip", w.clashOf(16), 0);
    }

    private static void lowestClashRefused() {
        CHECK.says("clashOf: Throws IndexOutOfBoundsException if there is no such strip; NoSuchElementException if none");
        for (int strip : new int[] {-1, -2, 3, 6, 7, 10, 12, 95, 96, LEAST, MOST}) {
            CHECK.refused("strip " + strip, INDEX, Books::rich, w -> w.clashOf(strip));
        }
        for (int strip : new int[] {0, 1, 2, 4, 5, 8, 9, 11}) {
            CHECK.refused("strip " + strip, MISSING, Books::rich, w -> w.clashOf(strip));
        }
        CHECK.refused("without a spread", INDEX, Books::none, w -> w.clashOf(0));
        CHECK.refused("of an empty book", INDEX, Books::empty, w -> w.clashOf(0));
        CHECK.refused("of a torn fold", INDEX, Books::torn, w -> w.clashOf(1));
    }

    private static void good() {
        CHECK.says("A book is good if it shuts, and nothing clashes.");
        CHECK.yes("both", Books.rich().isGood());
        CHECK.yes("a ridge at the width", ridge(60, 40).isGood());
        CHECK.no("a ridge beyond: it does not shut", ridge(60, 41).isGood());
        Popupwright clash = Books.one();
        clash.fold(0, 41, 10, 69, 80);
        CHECK.no("one clash", clash.isGood());
        CHECK.yes("though it shuts", clash.doesShut());
        Popupwright line = Books.one();
        line.fold(0, 41, 10, 70, 80);
        CHECK.yes("a line in common is no clash", line.isGood());
    }

    private static void worse() {
        CHECK.says("A fold or an arm that would make it worse can be made all the same.");
        Popupwright w = Books.one();
        CHECK.same("a fold that clashes", w.fold(0, 60, 10, 10, 70), 1);
        CHECK.same("one that does not shut", w.fold(0, 100, 100, 10, 70), 2);
        CHECK.same("an arm that clashes", w.arm(1, false, 40, 10, 70), 7);
        CHECK.same("an arm that does not shut", w.arm(0, true, 400, 10, 70), 2);
        CHECK.same("folds", w.folds(), 3);
    }

    private static void torn() {
        CHECK.says("Strips of torn folds are none");
        Popupwright w = ridge(60, 41);
        w.fold(0, 60, 41, 0, 80);
        CHECK.same("both clash", w.clashes(), 2);
        w.open(18, 9999);
        CHECK.yes("it shuts", w.doesShut());
        CHECK.yes("it is good", w.isGood());
        CHECK.same("nothing clashes", w.clashes(), 0);
        CHECK.same("but the fold sticks out", w.sticksOut(1), 1);
        w.mend(1);
        CHECK.no("one mended, it does not shut", w.doesShut());
        CHECK.same("still nothing clashes", w.clashes(), 0);
        CHECK.fails("with none", MISSING, () -> w.clashOf(4));
        w.mend(0);
        CHECK.same("both mended", w.clashes(), 2);
    }
}
