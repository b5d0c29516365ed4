/**
 * Each boundary that the document names in 'Nets' and in the promises 25 to 28 and 45.
 */
public final class EdgeNetTest {
    private static final Check CHECK = new Check("EdgeNetTest");
    private static final Class<IndexOutOfBoundsException> INDEX = IndexOutOfBoundsException.class;
    private static final Class<IllegalArgumentException> ILLEGAL = IllegalArgumentException.class;
    private static final Class<UnsupportedOperationException> UNSUPPORTED = UnsupportedOperationException.class;
    private static final int LEAST = Integer.MIN_VALUE;
    private static final int MOST = Integer.MAX_VALUE;

    public static void main(String[] args) {
        sheetRanges();
        tellsTheLengthBefore();
        sizes();
        notTurned();
        cannotBeLaid();
        netRefused();
        netOrderOfExceptions();
        longestFirst();
        widestThen();
        lowestThen();
        roomBesideWhatLiesThere();
        longEnoughShelf();
        shelfBehindShelf();
        firstShelfOfFirstSheet();
        newShelfOfFirstSheet();
        newSheet();
        fullBook();
        platesRefused();
        platesOfEachSheet();
        platesMadeOnce();
        platesBeyond();
        areas();
        CHECK.end();
    }

    private static void sheetRanges() {
        CHECK.says("setSheet: width: 20 to 2000; length: 20 to 2000");
        Popupwright w = Books.none();
        for (int last : new int[] {20, 2000}) {
            w.setSheet(last, 500);
            CHECK.same("the width " + last, w.setSheet(500, last), 500);
            CHECK.same("the length " + last, w.setSheet(500, 500), last);
        }
        for (int wrong : new int[] {19, 2001, 0, -20, LEAST, MOST}) {
            CHECK.refused("width " + wrong, ILLEGAL, Books::rich, b -> b.setSheet(wrong, 500));
            CHECK.refused("length " + wrong, ILLEGAL, Books::rich, b -> b.setSheet(500, wrong));
            CHECK.refused("without a spread", ILLEGAL, Books::none, b -> b.setSheet(wrong, wrong));
        }
    }

    private static void tellsTheLengthBefore() {
        CHECK.says("setSheet: Returns the length before.");
        Popupwright w = Books.none();
        CHECK.same("of a new object", w.setSheet(30, 40), 700);
        CHECK.same("not the width", w.setSheet(50, 60), 40);
        CHECK.same("after a spread", w.spread(20, 20) + w.setSheet(20, 20), 60);
    }

    /** Folds of the lengths and widths that are told, all in the gutter of a great book. */
    private static Popupwright nets(int[]... lengthsAndWidths) {
        Popupwright w = new Popupwright();
        w.spread(400, 400);
        for (int[] n : lengthsAndWidths) {
            w.fold(0, n[0] - 21, 1, 0, n[1]);
        }
        return w;
    }

    private static void at(Popupwright w, int fold, int sheet, int x, int y) {
        CHECK.same("sheet of " + fold, w.netAt(fold, 's'), sheet);
        CHECK.same("x of " + fold, w.netAt(fold, 'x'), x);
        CHECK.same("y of " + fold, w.netAt(fold, 'y'), y);
    }

    private static void sizes() {
        CHECK.says("as wide as its part of y, and as long as a plus b plus 2 tabs of 10, plus the longer of its arms");
        Popupwright w = Books.one();
        w.setSheet(60, 90);
        CHECK.same("as wide and as long as a sheet", w.sheets(), 1);
        w.arm(0, true, 7, 10, 11);
        CHECK.fails("an arm makes it longer", UNSUPPORTED, () -> w.sheets());
        w.setSheet(60, 97);
        CHECK.same("by as much", w.sheets(), 1);
        w.arm(0, false, 7, 10, 11);
        CHECK.same("one as long adds nothing", w.sheets(), 1);
        Popupwright longer = Books.one();
        longer.arm(0, true, 7, 10, 11);
        longer.arm(0, false, 8, 10, 11);
        longer.setSheet(60, 97);
        CHECK.fails("a longer one does", UNSUPPORTED, () -> longer.sheets());
        longer.setSheet(60, 98);
        CHECK.same("by what it is longer", longer.sheets(), 1);
    }

    private static void notTurned() {
        CHECK.says("nets are not turned, as paper has a grain");
        Popupwright w = Books.one();
        w.setSheet(90, 60);
        CHECK.fails("it would go, turned", UNSUPPORTED, () -> w.sheets());
        w.setSheet(60, 90);
        CHECK.same("it goes as it is", w.sheets(), 1);
    }

    private static Popupwright sheet(int width, int length) {
        Popupwright w = Books.rich();
        w.setSheet(width, length);
        return w;
    }

    private static void cannotBeLaid() {
        CHECK.says("A net that is wider or longer than a sheet cannot be laid.");
        CHECK.same("just as wide and long", sheet(60, 115).sheets(), 3);
        CHECK.refused("wider", UNSUPPORTED, () -> sheet(59, 115), w -> w.sheets());
        CHECK.refused("longer", UNSUPPORTED, () -> sheet(60, 114), w -> w.sheets());
        CHECK.refused("wider: where", UNSUPPORTED, () -> sheet(59, 115), w -> w.netAt(0, 's'));
        CHECK.refused("longer: where", UNSUPPORTED, () -> sheet(60, 114), w -> w.netAt(0, 'y'));
        CHECK.refused("the other one's place", UNSUPPORTED, () -> sheet(59, 115), w -> w.netAt(1, 'x'));
        CHECK.refused("wider: plates", UNSUPPORTED, () -> sheet(59, 115), w -> w.plates(0));
        CHECK.refused("longer: plates", UNSUPPORTED, () -> sheet(60, 114), w -> w.plates(99));
        Popupwright last = nets(new int[] {50, 10}, new int[] {51, 10});
        last.setSheet(20, 50);
        CHECK.fails("the last one is longer", UNSUPPORTED, () -> last.sheets());
        Popupwright none = Books.none();
        none.setSheet(20, 20);
        CHECK.same("no net is too large", none.sheets(), 0);
        CHECK.same("no plate", none.plates(0) + none.plates(99), 0);
    }

    private static void netRefused() {
        CHECK.says("netAt: Throws IndexOutOfBoundsException if there is no such fold");
        for (int fold : new int[] {-1, 3, 23, 24, LEAST, MOST}) {
            CHECK.refused("fold " + fold, INDEX, Books::rich, w -> w.netAt(fold, 's'));
        }
        CHECK.refused("without a spread", INDEX, Books::none, w -> w.netAt(0, 's'));
        CHECK.refused("24 of a full book", INDEX, Books::full, w -> w.netAt(24, 's'));
        CHECK.says("netAt: what: 's' the sheet, 'x' where it begins across, 'y' along; .. no such thing");
        for (char what : new char[] {'r', 't', 'w', 'z', 'S', 'X', 'Y', ' ', (char) 0, (char) 255, (char) 65535}) {
            CHECK.refused("what " + (int) what, ILLEGAL, Books::rich, w -> w.netAt(0, what));
        }
    }

    private static void netOrderOfExceptions() {
        CHECK.says("If several exceptions apply, the one that is listed first is thrown: netAt, plates");
        CHECK.refused("no fold, no thing, too large", INDEX, () -> sheet(20, 20), w -> w.netAt(3, 'z'));
        CHECK.refused("no thing, too large", ILLEGAL, () -> sheet(20, 20), w -> w.netAt(0, 'z'));
        CHECK.refused("too large", UNSUPPORTED, () -> sheet(20, 20), w -> w.netAt(0, 's'));
        CHECK.refused("no number, too large", ILLEGAL, () -> sheet(20, 20), w -> w.plates(100));
    }

    private static void longestFirst() {
        CHECK.says("in the order of the longest");
        Popupwright w = nets(new int[] {50, 90}, new int[] {51, 10}, new int[] {52, 5});
        at(w, 2, 0, 0, 0);
        at(w, 1, 0, 5, 0);
        at(w, 0, 0, 15, 0);
    }

    private static void widestThen() {
        CHECK.says("of several the widest");
        Popupwright w = nets(new int[] {50, 10}, new int[] {50, 11}, new int[] {50, 12});
        at(w, 2, 0, 0, 0);
        at(w, 1, 0, 12, 0);
        at(w, 0, 0, 23, 0);
    }

    private static void lowestThen() {
        CHECK.says("then the lowest number");
        Popupwright w = nets(new int[] {50, 10}, new int[] {50, 10}, new int[] {50, 10});
        at(w, 0, 0, 0, 0);
        at(w, 1, 0, 10, 0);
        at(w, 2, 0, 20, 0);
    }

    private static void roomBesideWhatLiesThere() {
        CHECK.says("on which there is room beside what lies there");
        Popupwright w = nets(new int[] {50, 60}, new int[] {40, 40}, new int[] {30, 1});
        w.setSheet(100, 200);
        at(w, 1, 0, 60, 0);
        at(w, 2, 0, 0, 50);
        w.setSheet(99, 200);
        at(w, 1, 0, 0, 50);
        at(w, 2, 0, 60, 0);
        w.setSheet(101, 200);
        at(w, 2, 0, 100, 0);
    }

    private static void longEnoughShelf() {
        CHECK.says("each on the first shelf, as long at least as it is");
        Popupwright w = nets(new int[] {50, 60}, new int[] {50, 30}, new int[] {49, 10});
        w.setSheet(100, 200);
        at(w, 1, 0, 60, 0);
        at(w, 2, 0, 90, 0);
        Popupwright two = nets(new int[] {50, 90}, new int[] {40, 80}, new int[] {40, 10}, new int[] {30, 20});
        two.setSheet(100, 200);
        at(two, 2, 0, 90, 0);
        at(two, 3, 0, 80, 50);
    }

    private static void shelfBehindShelf() {
        CHECK.says("a shelf is as long as its first net, and begins behind the one ahead");
        Popupwright w = nets(new int[] {50, 60}, new int[] {40, 60}, new int[] {30, 60});
        w.setSheet(60, 120);
        at(w, 1, 0, 0, 50);
        at(w, 2, 0, 0, 90);
        CHECK.same("all of the sheet", w.sheets(), 1);
        w.setSheet(60, 119);
        at(w, 2, 1, 0, 0);
        CHECK.same("1 less", w.sheets(), 2);
    }

    private static void firstShelfOfFirstSheet() {
        CHECK.says("of the first sheet, on which there is room");
        Popupwright w = nets(new int[] {60, 90}, new int[] {50, 80}, new int[] {40, 15}, new int[] {30, 10});
        w.setSheet(100, 100);
        at(w, 0, 0, 0, 0);
        at(w, 1, 1, 0, 0);
        at(w, 2, 1, 80, 0);
        at(w, 3, 0, 90, 0);
        CHECK.same("sheets", w.sheets(), 2);
        CHECK.says("otherwise on a new shelf: a shelf that is there comes first, on a later sheet, too");
        Popupwright later = nets(new int[] {60, 90}, new int[] {50, 80}, new int[] {40, 20});
        later.setSheet(100, 100);
        at(later, 2, 1, 80, 0);
    }

    private static void newShelfOfFirstSheet() {
        CHECK.says("otherwise on a new shelf of the first sheet that has room for it");
        Popupwright w = nets(new int[] {60, 90}, new int[] {50, 80}, new int[] {40, 21});
        w.setSheet(100, 100);
        at(w, 1, 1, 0, 0);
        at(w, 2, 0, 0, 60);
        w.setSheet(100, 99);
        at(w, 2, 1, 0, 50);
        w.setSheet(100, 90);
        at(w, 2, 1, 0, 50);
        CHECK.says("otherwise on a new sheet");
        w.setSheet(100, 89);
        at(w, 2, 2, 0, 0);
        CHECK.same("sheets", w.sheets(), 3);
    }

    private static void newSheet() {
        CHECK.says("sheets: Returns the number of sheets.");
        CHECK.same("no spread", Books.none().sheets(), 0);
        CHECK.same("no fold", Books.empty().sheets(), 0);
        CHECK.same("one fold", Books.one().sheets(), 1);
        Popupwright w = nets(new int[] {60, 100}, new int[] {60, 100});
        w.setSheet(200, 60);
        CHECK.same("beside each other", w.sheets(), 1);
        w.setSheet(199, 60);
        CHECK.same("one on each", w.sheets(), 2);
        w.setSheet(199, 119);
        CHECK.same("one on each, 1 too short", w.sheets(), 2);
        w.setSheet(100, 120);
        CHECK.same("one behind the other", w.sheets(), 1);
        CHECK.same("nets of torn folds stay", Books.torn().sheets(), 1);
    }

    private static void fullBook() {
        CHECK.says("sheets: of a full book");
        Popupwright w = Books.none();
        w.spread(100, 80);
        for (int n = 0; n < 24; n++) {
            w.fold(0, 20, 20, 0, 80);
        }
        w.setSheet(80, 60);
        CHECK.same("each on its own sheet", w.sheets(), 24);
        at(w, 23, 23, 0, 0);
        w.setSheet(80, 1440);
        CHECK.same("each on its own shelf", w.sheets(), 1);
        at(w, 23, 0, 0, 1380);
        w.setSheet(80, 1439);
        at(w, 23, 1, 0, 0);
        w.setSheet(1920, 60);
        at(w, 23, 0, 1840, 0);
        w.setSheet(1919, 60);
        at(w, 23, 1, 0, 0);
    }

    private static void platesRefused() {
        CHECK.says("plates: adds: what is added to all numbers, 0 to 99");
        CHECK.same("0", Books.rich().plates(0), 3);
        CHECK.same("99", Books.rich().plates(99), 3);
        for (int adds : new int[] {-1, 100, LEAST, MOST}) {
            CHECK.refused("adds " + adds, ILLEGAL, Books::rich, w -> w.plates(adds));
            CHECK.refused("without a spread", ILLEGAL, Books::none, w -> w.plates(adds));
        }
        CHECK.same("no picture", Books.three().plates(0) + Books.three().plates(1), 0);
    }

    private static void platesOfEachSheet() {
        CHECK.says("each unlike number on each sheet is a plate");
        Popupwright w = Books.three();
        w.picture(0, 0, 1, 10, 20, 7);
        w.picture(1, 0, 1, 10, 20, 7);
        CHECK.same("alike, of one fold", w.plates(0), 1);
        w.picture(4, 0, 1, 10, 20, 7);
        CHECK.same("alike, on one sheet", w.plates(0), 1);
        w.setSheet(60, 90);
        CHECK.same("alike, on two sheets", w.plates(0), 2);
        w.picture(5, 0, 1, 10, 20, 8);
        CHECK.same("unlike", w.plates(0), 3);
        CHECK.same("a full book on one sheet", Books.full().plates(0), 30);
    }

    private static void platesMadeOnce() {
        CHECK.says("a plate that both have is made once; that the edition with 0 does not have there; for 0 all");
        Popupwright w = Books.three();
        w.picture(0, 0, 1, 10, 20, 7);
        w.picture(0, 0, 1, 10, 20, 8);
        w.picture(0, 0, 1, 10, 20, 8);
        CHECK.same("for 0 all", w.plates(0), 2);
        CHECK.same("for 1 one, as 8 is had", w.plates(1), 1);
        CHECK.same("for 2 both", w.plates(2), 2);
        w.picture(4, 0, 1, 10, 20, 9);
        CHECK.same("on one sheet 9 is had", w.plates(2), 2);
        w.setSheet(60, 90);
        CHECK.same("on another sheet it is not", w.plates(2), 3);
        CHECK.same("for 0 all", w.plates(0), 3);
    }

    private static void platesBeyond() {
        CHECK.says("as printed with this added");
        Popupwright w = Books.one();
        w.picture(0, 0, 1, 10, 20, 1);
        w.picture(0, 0, 1, 10, 20, 99);
        CHECK.same("99 is had", w.plates(98), 1);
        CHECK.same("beyond 99 are numbers of their own", w.plates(1), 2);
        CHECK.same("the greatest", w.plates(99), 2);
    }

    private static void areas() {
        CHECK.says("paper: Returns the sum of the areas of all nets.");
        CHECK.same("no spread", Books.none().paper(), 0);
        CHECK.same("no fold", Books.empty().paper(), 0);
        CHECK.same("one", Books.one().paper(), 60 * 90);
        CHECK.same("the least", nets(new int[] {22, 1}).paper(), 22);
        Popupwright w = new Popupwright();
        w.spread(400, 400);
        for (int n = 0; n < 24; n++) {
            w.fold(0, 400, 400, 0, 400);
            w.arm(n, true, 400, 0, 400);
        }
        CHECK.same("the most", w.paper(), 24 * 400 * 1220);
        CHECK.same("nets of torn folds stay", Books.torn().paper(), Books.rich().paper());
        CHECK.same("a net that cannot be laid is paper, too", sheet(20, 20).paper(), Books.rich().paper());
    }
}
