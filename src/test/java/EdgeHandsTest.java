import java.util.NoSuchElementException;

/**
 * Each boundary that the document names in 'Hands' and in the promises 29 to 35.
 */
public final class EdgeHandsTest {
    private static final Check CHECK = new Check("EdgeHandsTest");
    private static final Class<IndexOutOfBoundsException> INDEX = IndexOutOfBoundsException.class;
    private static final Class<IllegalArgumentException> ILLEGAL = IllegalArgumentException.class;
    private static final Class<NoSuchElementException> MISSING = NoSuchElementException.class;
    private static final Class<UnsupportedOperationException> UNSUPPORTED = UnsupportedOperationException.class;
    private static final int LEAST = Integer.MIN_VALUE;
    private static final int MOST = Integer.MAX_VALUE;

    public static void main(String[] args) {
        glueRanges();
        orderRefused();
        foldsRefused();
        minutes();
        drying();
        waitsIfThereIsNone();
        parents();
        bothAtMost();
        moreThanALine();
        lowerNumbers();
        mostWaiting();
        lowestNumber();
        chain();
        lastMinute();
        stationRanges();
        noFolds();
        stations();
        sharedOrder();
        copyRanges();
        copyOrderOfExceptions();
        copyMinutes();
        tornFoldsAreGlued();
        CHECK.end();
    }

    private static void glueRanges() {
        CHECK.says("setGlue: minutes: 0 to 99. Returns the minutes before.");
        Popupwright w = Books.none();
        CHECK.same("0", w.setGlue(0), 10);
        CHECK.same("99", w.setGlue(99), 0);
        CHECK.same("then", w.setGlue(5), 99);
        for (int minutes : new int[] {-1, 100, LEAST, MOST}) {
            CHECK.refused("minutes " + minutes, ILLEGAL, Books::rich, b -> b.setGlue(minutes));
        }
    }

    private static void orderRefused() {
        CHECK.says("orderAt: index, from 0; Throws NoSuchElementException if there is no such fold");
        CHECK.same("the first one", Books.rich().orderAt(0), 0);
        CHECK.same("the last one", Books.rich().orderAt(2), 2);
        CHECK.same("the last one of a full book", Books.full().orderAt(23), 23);
        for (int index : new int[] {-1, 3, 23, 24, LEAST, MOST}) {
            CHECK.refused("index " + index, MISSING, Books::rich, w -> w.orderAt(index));
        }
        CHECK.refused("24 of a full book", MISSING, Books::full, w -> w.orderAt(24));
        CHECK.refused("of an empty book", MISSING, Books::empty, w -> w.orderAt(0));
        CHECK.refused("without a spread", MISSING, Books::none, w -> w.orderAt(0));
    }

    private static void foldsRefused() {
        CHECK.says("begunAt, waiting: Throws IndexOutOfBoundsException if there is no such fold");
        for (int fold : new int[] {-1, 3, 23, 24, LEAST, MOST}) {
            CHECK.refused("begunAt " + fold, INDEX, Books::rich, w -> w.begunAt(fold));
            CHECK.refused("waiting " + fold, INDEX, Books::rich, w -> w.waiting(fold));
        }
        CHECK.refused("begunAt without a spread", INDEX, Books::none, w -> w.begunAt(0));
        CHECK.refused("waiting without a spread", INDEX, Books::none, w -> w.waiting(0));
        CHECK.refused("begunAt 24 of a full book", INDEX, Books::full, w -> w.begunAt(24));
        CHECK.refused("waiting 24 of a full book", INDEX, Books::full, w -> w.waiting(24));
        CHECK.same("23 of a full book", Books.full().begunAt(23) + Books.full().waiting(23), 46);
    }

    private static void minutes() {
        CHECK.says("Glueing takes 1 minute for each 10 of its part of y, cut, and 1 more");
        int[][] due = {{1, 1}, {9, 1}, {10, 2}, {11, 2}, {19, 2}, {20, 3}, {399, 40}, {400, 41}};
        for (int[] d : due) {
            Popupwright w = Books.none();
            w.spread(400, 400);
            w.fold(0, 1, 1, 400 - d[0], 400);
            CHECK.same("a part of " + d[0], w.makingTime(), d[1]);
        }
    }

    private static void drying() {
        CHECK.says("dries for as many minutes as are told, and nothing can be glued to it, or over it, till then");
        for (int glue : new int[] {0, 1, 10, 99}) {
            Popupwright to = Books.one();
            to.fold(2, 1, 1, 10, 11);
            to.setGlue(glue);
            CHECK.same("to it, as soon as it is dry", to.begunAt(1), 7 + glue);
            CHECK.same("the time", to.makingTime(), 8 + glue);
            Popupwright over = Books.one();
            over.fold(0, 40, 31, 10, 11);
            over.setGlue(glue);
            CHECK.same("over it, as soon as it is dry", over.begunAt(1), 7 + glue);
        }
        Popupwright again = Books.one();
        again.fold(2, 1, 1, 10, 11);
        again.setGlue(99);
        CHECK.same("slow glue", again.begunAt(1), 106);
        again.setGlue(0);
        CHECK.same("then glue that dries at once", again.begunAt(1), 7);
    }

    /** The fold 1 waits for the fold 0; the fold 2, as many minutes long as told, waits for none. */
    private static Popupwright three(int minutes, int glue) {
        Popupwright w = Books.none();
        w.spread(400, 400);
        w.fold(0, 20, 20, 0, 9);
        w.fold(1, 5, 5, 0, 9);
        w.fold(0, 20, 20, 10, 9 + 10 * minutes);
        w.setGlue(glue);
        return w;
    }

    private static void waitsIfThereIsNone() {
        CHECK.says("among the folds that can be glued at that minute .. if there is none, it waits");
        CHECK.same("another one first, 1 minute too short", three(5, 6).begunAt(1), 7);
        CHECK.same("another one first, just as long", three(6, 6).begunAt(1), 7);
        CHECK.same("another one first, longer", three(7, 6).begunAt(1), 8);
        CHECK.same("the other one is begun at once", three(7, 6).begunAt(2), 1);
        CHECK.same("dry at once: by its number", three(7, 0).begunAt(1), 1);
        CHECK.same("then the other one", three(7, 0).begunAt(2), 2);
        Popupwright both = times(1, 2);
        both.fold(1, 5, 5, 0, 1);
        both.fold(3, 5, 5, 1, 2);
        CHECK.same("what is dry first", both.begunAt(2), 11);
        CHECK.same("what is dry then", both.begunAt(3), 13);
    }

    private static void parents() {
        CHECK.says("A fold is glued when its parent is: the fold that made its crease");
        for (int crease : new int[] {1, 2}) {
            Popupwright w = Books.one();
            w.fold(crease, 1, 1, 10, 11);
            CHECK.same("one waits for the parent", w.waiting(0), 1);
            CHECK.same("none for the child", w.waiting(1), 0);
        }
        for (int crease = 3; crease <= 6; crease++) {
            Popupwright w = Books.three();
            w.fold(crease, 1, 1, 20, 30);
            CHECK.same("for the parent of " + crease, w.waiting(crease < 5 ? 1 : 2), 1);
            CHECK.same("not for the other one", w.waiting(crease < 5 ? 2 : 1), 0);
            CHECK.same("by others", w.waiting(0), 3);
        }
        Popupwright gutter = Books.one();
        gutter.fold(0, 1, 100, 10, 11);
        CHECK.same("none waits for a gutter", gutter.waiting(0) + gutter.waiting(1), 0);
    }

    /** How many wait for the fold 0, 40 and 30 long, when there is one more in its crease. */
    private static int over(int a, int b) {
        Popupwright w = Books.one();
        w.fold(0, a, b, 10, 70);
        return w.waiting(0);
    }

    private static void bothAtMost() {
        CHECK.says("all other folds in the same crease, whose a and b are both at most its own");
        CHECK.same("a as long, b longer", over(40, 31), 1);
        CHECK.same("a longer, b as long", over(41, 30), 1);
        CHECK.same("both longer", over(41, 31), 1);
        CHECK.same("a longer, b shorter", over(41, 29), 0);
        CHECK.same("a shorter, b longer", over(39, 31), 0);
        CHECK.same("both shorter", over(39, 29), 0);
        Popupwright shorter = Books.one();
        shorter.fold(0, 39, 30, 10, 70);
        CHECK.same("the first one waits then", shorter.waiting(1), 1);
        Popupwright other = Books.one();
        other.fold(1, 40, 30, 10, 70);
        other.fold(2, 40, 30, 10, 70);
        CHECK.same("but not in other creases", other.waiting(1) + other.waiting(2), 0);
    }

    private static int overInY(int low, int high) {
        Popupwright w = Books.one();
        w.fold(0, 41, 31, low, high);
        return w.waiting(0);
    }

    private static void moreThanALine() {
        CHECK.says("with more than a line of y in common");
        CHECK.same("a line at its upper edge", overInY(70, 80), 0);
        CHECK.same("more than a line", overInY(69, 80), 1);
        CHECK.same("a line at its lower edge", overInY(0, 10), 0);
        CHECK.same("more than a line", overInY(0, 11), 1);
        CHECK.same("within", overInY(30, 31), 1);
        CHECK.same("around", overInY(0, 80), 1);
    }

    private static void lowerNumbers() {
        CHECK.says("of those with the same a and b, the ones of lower numbers");
        Popupwright w = Books.one();
        w.fold(0, 40, 30, 10, 70);
        w.fold(0, 40, 30, 69, 80);
        CHECK.same("for the first one", w.waiting(0), 2);
        CHECK.same("for the second one", w.waiting(1), 1);
        CHECK.same("for the last one", w.waiting(2), 0);
        CHECK.same("it is glued last", w.orderAt(2), 2);
    }

    private static void mostWaiting() {
        CHECK.says("the one with the most folds that wait for it, straight or by others");
        Popupwright w = Books.none();
        w.spread(100, 80);
        w.fold(0, 20, 20, 0, 9);
        w.fold(0, 20, 20, 10, 19);
        w.fold(0, 20, 20, 20, 29);
        w.fold(3, 5, 5, 10, 19);
        w.fold(5, 5, 5, 20, 29);
        w.fold(9, 2, 2, 20, 29);
        CHECK.same("two, one by the other", w.waiting(2), 2);
        CHECK.same("one", w.waiting(1), 1);
        int[] due = {2, 1, 0, 4, 3, 5};
        for (int n = 0; n < due.length; n++) {
            CHECK.same("order at " + n, w.orderAt(n), due[n]);
        }
        Popupwright byFirst = Books.one();
        byFirst.fold(0, 10, 10, 10, 70);
        byFirst.fold(1, 5, 5, 10, 20);
        CHECK.same("by the fold 0", byFirst.waiting(1), 2);
        Popupwright first = Books.empty();
        first.fold(0, 30, 30, 0, 10);
        first.fold(0, 20, 20, 5, 20);
        first.fold(0, 10, 10, 15, 30);
        CHECK.same("the fold 0 by another one, though it has no y in common", first.waiting(2), 2);
    }

    private static void lowestNumber() {
        CHECK.says("of several the lowest number");
        Popupwright w = Books.full();
        for (int n = 0; n < 24; n++) {
            CHECK.same("order at " + n, w.orderAt(n), n);
            CHECK.same("begun at", w.begunAt(n), 2 * n);
        }
    }

    private static void chain() {
        CHECK.says("straight or by others: 24 folds, each to the one ahead");
        Popupwright w = Books.none();
        w.spread(100, 80);
        for (int n = 0; n < 24; n++) {
            w.fold(2 * n, 1, 1, 0, 80);
        }
        for (int n = 0; n < 24; n++) {
            CHECK.same("waiting for " + n, w.waiting(n), 23 - n);
            CHECK.same("begun", w.begunAt(n), n * (9 + 10));
            CHECK.same("order", w.orderAt(n), n);
        }
        w.setGlue(99);
        CHECK.same("the longest drying", w.makingTime(), 23 * (9 + 99) + 9);
        CHECK.same("shared without drying", w.balance(1), 24 * 9);
        CHECK.same("on nine stations", w.balance(9), 27);
    }

    private static void lastMinute() {
        CHECK.says("makingTime: Returns the minute in which the last one is glued, not dried.");
        CHECK.same("no spread", Books.none().makingTime(), 0);
        CHECK.same("no fold", Books.empty().makingTime(), 0);
        CHECK.same("one fold", Books.one().makingTime(), 7);
        Popupwright w = Books.one();
        w.setGlue(99);
        CHECK.same("its drying does not count", w.makingTime(), 7);
        w.spread(20, 20);
        CHECK.same("nor does what was in another book", w.makingTime(), 0);
    }

    private static void stationRanges() {
        CHECK.says("balance: stations: how many, 1 to 9");
        CHECK.same("1", Books.full().balance(1), 48);
        CHECK.same("9", Books.full().balance(9), 6);
        for (int stations : new int[] {0, 10, -1, LEAST, MOST}) {
            CHECK.refused("stations " + stations, ILLEGAL, Books::rich, w -> w.balance(stations));
            CHECK.refused("stations " + stations + ", no spread", ILLEGAL, Books::none, w -> w.balance(stations));
        }
    }

    private static void noFolds() {
        CHECK.says("Returns the greatest time of stations: perhaps no folds");
        for (int stations = 1; stations <= 9; stations++) {
            CHECK.same("without a spread", Books.none().balance(stations), 0);
            CHECK.same("of an empty book", Books.empty().balance(stations), 0);
            CHECK.same("more stations than folds", Books.one().balance(stations), 7);
        }
    }

    /** Folds that wait for none, in their order, each as many minutes long as told. */
    private static Popupwright times(int... minutes) {
        Popupwright w = Books.none();
        w.spread(400, 400);
        int low = 0;
        for (int m : minutes) {
            int high = low + 10 * m - 9;
            w.fold(0, 20, 20, low, high);
            low = high;
        }
        return w;
    }

    private static void balances(Popupwright w, int... due) {
        for (int n = 0; n < due.length; n++) {
            CHECK.same("balance of " + (n + 1), w.balance(n + 1), due[n]);
        }
    }

    private static void stations() {
        CHECK.says("each some folds of the order that follow each other; the greatest time .. is the least that can be");
        balances(times(7, 6), 13, 7, 7);
        balances(times(6, 7), 13, 7, 7);
        balances(times(3, 5, 2, 7, 1), 18, 10, 8, 7, 7, 7, 7, 7, 7);
        balances(times(1, 1, 1, 1), 4, 2, 2, 1, 1, 1, 1, 1, 1);
        balances(times(4, 1, 4), 9, 5, 4, 4);
        balances(times(1, 9, 1), 11, 10, 9, 9);
        balances(times(2, 2, 2, 2, 2, 2, 2, 2, 2, 2), 20, 10, 8, 6, 4, 4, 4, 4, 4);
    }

    private static void sharedOrder() {
        CHECK.says("Stations share the order without drying");
        // Glued in the order 1, 0 with 6 and 1 minutes, then 2 with 6: 6 | 1 6 or 6 1 | 6.
        Popupwright w = Books.none();
        w.spread(400, 400);
        w.fold(0, 20, 20, 0, 9);
        w.fold(0, 20, 20, 100, 159);
        w.fold(3, 5, 5, 100, 159);
        CHECK.same("first", w.orderAt(0), 1);
        CHECK.same("then", w.orderAt(1), 0);
        CHECK.same("last", w.orderAt(2), 2);
        balances(w, 13, 7, 6);
        w.setGlue(99);
        balances(w, 13, 7, 6);
        CHECK.same("but in the time there is drying", w.makingTime(), 6 + 99 + 6);
    }

    private static void copyRanges() {
        CHECK.says("copies: stations: how many, 1 to 9; minutes: of the day, 1 to 9999");
        CHECK.same("1 station", times(1).copies(1, 9999), 9999);
        CHECK.same("9 stations", times(1).copies(9, 9999), 9999);
        CHECK.same("1 minute", times(1).copies(1, 1), 1);
        for (int wrong : new int[] {0, 10, -1, LEAST, MOST}) {
            CHECK.refused("stations " + wrong, ILLEGAL, Books::rich, w -> w.copies(wrong, 100));
        }
        for (int wrong : new int[] {0, 10000, -1, LEAST, MOST}) {
            CHECK.refused("minutes " + wrong, ILLEGAL, Books::rich, w -> w.copies(1, wrong));
        }
    }

    private static void copyOrderOfExceptions() {
        CHECK.says("copies: Throws UnsupportedOperationException if there is no fold");
        CHECK.refused("no spread", UNSUPPORTED, Books::none, w -> w.copies(1, 1));
        CHECK.refused("no fold", UNSUPPORTED, Books::empty, w -> w.copies(9, 9999));
        CHECK.says("If several exceptions apply, the one that is listed first is thrown: copies");
        CHECK.refused("no stations, no fold", ILLEGAL, Books::none, w -> w.copies(0, 1));
        CHECK.refused("no minutes, no fold", ILLEGAL, Books::empty, w -> w.copies(1, 10000));
    }

    private static void copyMinutes() {
        CHECK.says("the first one takes as long as all folds take to glue, each further one the greatest time");
        Popupwright w = times(7, 6);
        CHECK.same("1 minute too short for one", w.copies(2, 12), 0);
        CHECK.same("one", w.copies(2, 13), 1);
        CHECK.same("1 minute too short for two", w.copies(2, 19), 1);
        CHECK.same("two", w.copies(2, 20), 2);
        CHECK.same("one station: 1 minute too short for two", w.copies(1, 25), 1);
        CHECK.same("one station: two", w.copies(1, 26), 2);
        Popupwright dry = Books.one();
        dry.fold(1, 20, 15, 10, 40);
        dry.setGlue(99);
        CHECK.same("its drying does not count", dry.copies(1, 11), 1);
        CHECK.same("1 minute less", dry.copies(1, 10), 0);
        CHECK.same("a full book", Books.full().copies(9, 9999), 1 + (9999 - 48) / 6);
        CHECK.same("asked first: 1 minute too short for two", times(3, 5, 2, 7, 1).copies(2, 27), 1);
        CHECK.same("asked first: two", times(3, 5, 2, 7, 1).copies(2, 28), 2);
    }

    private static void tornFoldsAreGlued() {
        CHECK.says("Strips of torn folds are none; their creases, nets and arms stay.");
        CHECK.same("the time", Books.torn().makingTime(), Books.rich().makingTime());
        CHECK.same("who waits", Books.torn().waiting(0), 2);
        CHECK.same("the order", Books.torn().orderAt(0), 0);
    }
}
