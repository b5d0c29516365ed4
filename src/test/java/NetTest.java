/** Promises 25 to 28 and 45: sheets, nets and plates. */
public final class NetTest {
    private static final Check CHECK = new Check("NetTest");

    public static void main(String[] args) {
        sets();
        sizes();
        shelves();
        firstShelfOfAllSheets();
        newShelfOfTheFirstSheet();
        order();
        tooLarge();
        refused();
        plates();
        platesOnSheets();
        torn();
        CHECK.end();
    }

    private static void sets() {
        Popupwright w = new Popupwright();
        CHECK.same("before", w.setSheet(20, 2000), 700);
        CHECK.same("then", w.setSheet(2000, 20), 2000);
        for (int wrong : new int[] {19, 2001, -1, Integer.MAX_VALUE}) {
            CHECK.fails("width " + wrong, IllegalArgumentException.class, () -> w.setSheet(wrong, 100));
            CHECK.fails("length " + wrong, IllegalArgumentException.class, () -> w.setSheet(100, wrong));
        }
        CHECK.same("as before", w.setSheet(100, 100), 20);
    }

    private static void net(Popupwright w, int fold, int sheet, int x, int y) {
        CHECK.same("sheet of " + fold, w.netAt(fold, 's'), sheet);
        CHECK.same("x of " + fold, w.netAt(fold, 'x'), x);
        CHECK.same("y of " + fold, w.netAt(fold, 'y'), y);
    }

    private static void sizes() {
        Popupwright w = SpreadTest.one();
        CHECK.same("paper", w.paper(), 60 * 90);
        w.arm(0, true, 7, 10, 20);
        CHECK.same("with an arm", w.paper(), 60 * 97);
        w.arm(0, false, 6, 10, 20);
        CHECK.same("with a shorter one", w.paper(), 60 * 97);
        w.fold(1, 20, 15, 10, 40);
        CHECK.same("with another fold", w.paper(), 60 * 97 + 30 * 55);
        CHECK.same("none", new Popupwright().paper(), 0);
        Popupwright longer = SpreadTest.one();
        longer.arm(0, false, 9, 10, 20);
        CHECK.same("with the other arm", longer.paper(), 60 * 99);
        longer.setSheet(60, 99);
        CHECK.same("a net as large as the sheet", longer.sheets(), 1);
        longer.setSheet(59, 99);
        CHECK.fails("wider", UnsupportedOperationException.class, () -> longer.sheets());
        longer.setSheet(60, 98);
        CHECK.fails("longer", UnsupportedOperationException.class, () -> longer.sheets());
        longer.setSheet(99, 60);
        CHECK.fails("not turned", UnsupportedOperationException.class, () -> longer.sheets());
    }

    /** Folds of the lengths and widths that are told, all in the gutter of a great book. */
    private static Popupwright nets(int[]... lengthsAndWidths) {
        Popupwright w = new Popupwright();
        w.spread(400, 400);
        for (int[] n : lengthsAndWidths) {
            w.fold(0, n[0] - 21, 1, 0, n[1]);
        }
        return w;
    }

    private static void shelves() {
        Popupwright w = nets(new int[] {100, 60}, new int[] {90, 40}, new int[] {80, 30});
        w.setSheet(100, 200);
        net(w, 0, 0, 0, 0);
        net(w, 1, 0, 60, 0);
        net(w, 2, 0, 0, 100);
        CHECK.same("sheets", w.sheets(), 1);
        w.setSheet(99, 200);
        net(w, 1, 0, 0, 100);
        net(w, 2, 0, 60, 0);
        w.setSheet(99, 190);
        CHECK.same("sheets", w.sheets(), 1);
        w.setSheet(99, 189);
        CHECK.same("sheets", w.sheets(), 2);
        net(w, 1, 1, 0, 0);
    }

    private static void firstShelfOfAllSheets() {
        // The last one has room on a shelf of sheet 1, and on a new shelf of sheet 0: shelves come first.
        Popupwright w = nets(new int[] {100, 90}, new int[] {90, 60}, new int[] {30, 30});
        w.setSheet(100, 150);
        net(w, 0, 0, 0, 0);
        net(w, 1, 1, 0, 0);
        net(w, 2, 1, 60, 0);
        CHECK.same("sheets", w.sheets(), 2);
    }

    private static void newShelfOfTheFirstSheet() {
        Popupwright w = nets(new int[] {100, 90}, new int[] {90, 60}, new int[] {40, 50}, new int[] {40, 40},
                new int[] {30, 10});
        w.setSheet(100, 150);
        net(w, 2, 0, 0, 100);
        net(w, 3, 0, 50, 100);
        net(w, 4, 0, 90, 0);
        CHECK.same("sheets", w.sheets(), 2);
    }

    private static void order() {
        Popupwright w = nets(new int[] {50, 10}, new int[] {50, 20}, new int[] {60, 5}, new int[] {50, 20});
        net(w, 2, 0, 0, 0);
        net(w, 1, 0, 5, 0);
        net(w, 3, 0, 25, 0);
        net(w, 0, 0, 45, 0);
        w.arm(0, true, 11, 0, 10);
        net(w, 0, 0, 0, 0);
        net(w, 2, 0, 10, 0);
    }

    private static void tooLarge() {
        Popupwright w = nets(new int[] {50, 10}, new int[] {90, 30});
        w.setSheet(100, 89);
        CHECK.fails("sheets", UnsupportedOperationException.class, () -> w.sheets());
        CHECK.fails("of the other one", UnsupportedOperationException.class, () -> w.netAt(0, 's'));
        CHECK.fails("plates", UnsupportedOperationException.class, () -> w.plates(1));
        w.setSheet(100, 90);
        CHECK.same("sheets", w.sheets(), 1);
        w.setSheet(29, 90);
        CHECK.fails("too wide", UnsupportedOperationException.class, () -> w.sheets());
        w.setSheet(30, 90);
        CHECK.same("sheets", w.sheets(), 2);
    }

    private static void refused() {
        Popupwright w = nets(new int[] {50, 30});
        w.setSheet(20, 20);
        CHECK.fails("fold 1", IndexOutOfBoundsException.class, () -> w.netAt(1, 'z'));
        CHECK.fails("fold -1", IndexOutOfBoundsException.class, () -> w.netAt(-1, 's'));
        for (char wrong : new char[] {'z', 'S', 'X', 't', 'r', 'w', (char) 0, (char) 255}) {
            CHECK.fails("what " + (int) wrong, IllegalArgumentException.class, () -> w.netAt(0, wrong));
        }
        CHECK.fails("too large", UnsupportedOperationException.class, () -> w.netAt(0, 's'));
        CHECK.fails("adds -1", IllegalArgumentException.class, () -> w.plates(-1));
        CHECK.fails("adds 100", IllegalArgumentException.class, () -> w.plates(100));
        CHECK.fails("plates", UnsupportedOperationException.class, () -> w.plates(0));
        CHECK.same("no nets, no plates", new Popupwright().plates(99), 0);
    }

    private static void plates() {
        Popupwright w = SpreadTest.one();
        CHECK.same("no picture", w.plates(0), 0);
        w.picture(0, 0, 1, 10, 20, 7);
        w.picture(1, 0, 1, 10, 20, 7);
        w.picture(1, 0, 1, 10, 20, 9);
        CHECK.same("alike numbers", w.plates(0), 2);
        CHECK.same("one that both have", w.plates(2), 1);
        CHECK.same("none that both have", w.plates(1), 2);
        w.picture(1, 0, 1, 10, 20, 99);
        CHECK.same("beyond 99", w.plates(2), 2);
        CHECK.same("far beyond 99", w.plates(99), 3);
        CHECK.same("99 is had", w.plates(90), 2);
        w.flap(0);
        CHECK.same("a flap costs no plate, and spares none", w.plates(0), 3);
    }

    private static void platesOnSheets() {
        Popupwright w = SpreadTest.three();
        w.picture(0, 0, 1, 10, 20, 7);
        w.picture(4, 0, 1, 10, 20, 7);
        w.picture(8, 0, 1, 20, 30, 9);
        CHECK.same("one sheet", w.plates(0), 2);
        CHECK.same("one sheet, added", w.plates(2), 1);
        w.setSheet(60, 90);
        CHECK.same("sheets", w.sheets(), 3);
        CHECK.same("three sheets", w.plates(0), 3);
        CHECK.same("three sheets, added", w.plates(2), 3);
    }

    private static void torn() {
        Popupwright w = SpreadTest.three();
        w.arm(0, true, 5, 10, 20);
        w.picture(0, 0, 1, 10, 20, 7);
        long before = w.paper();
        w.open(18, 9999);
        CHECK.same("nets stay", w.paper(), before);
        CHECK.same("on sheets", w.sheets(), 1);
        CHECK.same("with their plates", w.plates(0), 1);
    }
}
