/**
 * Each boundary that the document names in 'Spread and angles', in 'Folds' and in the promises 1 to 8:
 * what is the last that goes, what is the first that does not, and that nothing has changed then.
 */
public final class EdgeSpreadTest {
    private static final Check CHECK = new Check("EdgeSpreadTest");
    private static final Class<IndexOutOfBoundsException> INDEX = IndexOutOfBoundsException.class;
    private static final Class<IllegalArgumentException> ILLEGAL = IllegalArgumentException.class;
    private static final Class<IllegalStateException> STATE = IllegalStateException.class;
    private static final Class<UnsupportedOperationException> UNSUPPORTED = UnsupportedOperationException.class;
    private static final int LEAST = Integer.MIN_VALUE;
    private static final int MOST = Integer.MAX_VALUE;

    public static void main(String[] args) {
        lastCall();
        newObject();
        newSheets();
        spreadRanges();
        spreadTellsFolds();
        spreadIsEmpty();
        spreadLeavesSettings();
        gutter();
        foldNeedsACrease();
        foldLengths();
        foldPart();
        noRoom();
        creaseNumbers();
        mostFolds();
        foldOrderOfExceptions();
        roomNeedsACrease();
        armNeedsAFold();
        armLengths();
        armPart();
        oneArmOnEachPanel();
        armOrderOfExceptions();
        stripNumbers();
        placesOfStrips();
        steps();
        shutAndFlat();
        placeOrderOfExceptions();
        distances();
        CHECK.end();
    }

    private static void lastCall() {
        CHECK.says("An object is used for at most 512 calls after it has been made");
        Popupwright w = Books.none();
        w.spread(100, 80);
        w.fold(0, 40, 30, 10, 70);
        w.picture(0, 0, 30, 10, 70, 5);
        w.flap(0);
        for (int call = 5; call <= 511; call++) {
            CHECK.same("call " + call, w.turn(0) ? 1 : 0, call % 2 == 0 ? 1 : 0);
        }
        CHECK.same("call 512", w.colourAt(0, 5, 20), 5);
    }

    private static void newObject() {
        CHECK.says("Creates a workshop without a spread, paper of the weight 200, .. glue that dries in 10 minutes.");
        CHECK.fails("no spread", UNSUPPORTED, () -> Books.none().doesShut());
        CHECK.fails("no gutter", INDEX, () -> Books.none().room(0, true));
        CHECK.same("folds", Books.none().folds(), 0);
        CHECK.same("paper", Books.none().setPaper(100), 200);
        CHECK.same("length of sheets", Books.none().setSheet(20, 20), 700);
        CHECK.same("glue", Books.none().setGlue(0), 10);
        Books.full().setPaper(400);
        CHECK.same("another object changes nothing here", Books.none().setPaper(100), 200);
        CHECK.same("nor are its folds here", Books.none().folds(), 0);
    }

    private static void newSheets() {
        CHECK.says("sheets of 500 by 700");
        Popupwright wide = new Popupwright();
        wide.spread(400, 400);
        wide.fold(0, 10, 10, 0, 300);
        wide.fold(0, 10, 10, 0, 200);
        CHECK.same("500 across hold 300 and 200", wide.netAt(1, 'y'), 0);
        wide.fold(0, 10, 10, 399, 400);
        CHECK.same("and 1 no more", wide.netAt(2, 'y'), 40);
        Popupwright lengths = new Popupwright();
        lengths.spread(400, 400);
        lengths.fold(0, 200, 130, 0, 300);
        lengths.fold(0, 200, 130, 0, 300);
        CHECK.same("700 along hold 350 and 350", lengths.sheets(), 1);
        lengths.arm(0, true, 1, 0, 1);
        CHECK.same("but not 351 and 350", lengths.sheets(), 2);
    }

    private static void spreadRanges() {
        CHECK.says("width: of a page, 20 to 400; height: 20 to 400");
        for (int last : new int[] {20, 400}) {
            Popupwright w = Books.none();
            CHECK.same("as wide as " + last, w.spread(last, 50), 0);
            CHECK.same("so are its rooms", w.room(0, true) + w.room(0, false), 2 * last);
            CHECK.same("as high as " + last, w.spread(50, last), 0);
            CHECK.same("so is its gutter", w.fold(0, 1, 1, last - 1, last), 0);
        }
        for (int first : new int[] {19, 401, 0, -20, LEAST, MOST}) {
            CHECK.refused("width " + first, ILLEGAL, Books::rich, w -> w.spread(first, 50));
            CHECK.refused("height " + first, ILLEGAL, Books::rich, w -> w.spread(50, first));
            CHECK.refused("width " + first + " of the first one", ILLEGAL, Books::none, w -> w.spread(first, 50));
            CHECK.refused("height " + first + " of the first one", ILLEGAL, Books::none, w -> w.spread(50, first));
        }
    }

    private static void spreadTellsFolds() {
        CHECK.says("Returns how many folds there were.");
        CHECK.same("without a spread", Books.none().spread(20, 20), 0);
        CHECK.same("of an empty one", Books.empty().spread(20, 20), 0);
        CHECK.same("of three", Books.three().spread(20, 20), 3);
        CHECK.same("of a full one", Books.full().spread(20, 20), 24);
        CHECK.same("torn ones are folds", Books.torn().spread(20, 20), 3);
    }

    private static void spreadIsEmpty() {
        CHECK.says("Begins a spread, without anything.");
        Popupwright w = Books.torn();
        w.arm(0, false, 1, 10, 11);
        w.open(18, 9999);
        for (int n = 0; n < 3; n++) {
            w.mend(0);
            w.open(18, 9999);
        }
        w.spread(100, 80);
        CHECK.same("folds", w.folds(), 0);
        CHECK.fails("creases", INDEX, () -> w.room(1, true));
        CHECK.fails("strips", INDEX, () -> w.across(0, 0, 0));
        CHECK.fails("pictures", INDEX, () -> w.isWhole(0, 1));
        CHECK.fails("flaps", INDEX, () -> w.turn(1));
        CHECK.fails("pulls", INDEX, () -> w.pullAt(0));
        w.fold(0, 40, 30, 10, 70);
        CHECK.same("a fold is not tired", w.tired(0), 0);
        CHECK.same("nor torn: it has strips", w.across(0, 0, 9), 2600);
        CHECK.same("and no arms on the first panel", w.arm(0, true, 1, 10, 70), 2);
        CHECK.same("nor on the second one", w.arm(0, false, 1, 10, 70), 3);
        CHECK.same("pictures begin at 0", w.picture(1, 0, 20, 10, 70, 5), 0);
        CHECK.same("the next one", w.picture(1, 0, 20, 10, 70, 6), 1);
        CHECK.same("no flap hides them", w.colourAt(1, 10, 20), 6);
        CHECK.same("they have none", w.flap(1), 1);
        CHECK.same("pulls begin at 0", w.pull(0, 0, 10, 1), 0);
        CHECK.same("the next one", w.pull(1, 0, 10, 1), 1);
        CHECK.same("the third one", w.pull(1, 0, 10, 1), 2);
        CHECK.same("none is joined yet", w.join(1, 2), 1);
        w.open(18, 9999);
        CHECK.same("it was never mended", w.mend(0), 1);
    }

    private static void spreadLeavesSettings() {
        CHECK.says("Begins a spread: paper, sheets and glue are the workshop's");
        Popupwright w = Books.rich();
        w.spread(20, 20);
        CHECK.same("paper", w.setPaper(100), 150);
        CHECK.same("sheets", w.setSheet(20, 20), 200);
        CHECK.same("glue", w.setGlue(0), 7);
    }

    private static void gutter() {
        CHECK.says("The crease 0 is the gutter, with both rooms as wide as the page, and all of the height.");
        Popupwright w = new Popupwright();
        w.spread(37, 53);
        CHECK.same("left room", w.room(0, true), 37);
        CHECK.same("right room", w.room(0, false), 37);
        CHECK.same("a fold of all of it", w.fold(0, 37, 37, 0, 53), 0);
        CHECK.refused("below it", ILLEGAL, Books::empty, b -> b.fold(0, 1, 1, -1, 80));
        CHECK.refused("above it", ILLEGAL, Books::empty, b -> b.fold(0, 1, 1, 0, 81));
        CHECK.refused("beyond its left room", ILLEGAL, Books::empty, b -> b.fold(0, 101, 1, 0, 80));
        CHECK.refused("beyond its right room", ILLEGAL, Books::empty, b -> b.fold(0, 1, 101, 0, 80));
    }

    private static void foldNeedsACrease() {
        CHECK.says("fold: Throws IndexOutOfBoundsException if there is no such crease");
        for (int crease : new int[] {-1, 7, 8, 48, 49, LEAST, MOST}) {
            CHECK.refused("fold in " + crease, INDEX, Books::rich, w -> w.fold(crease, 1, 1, 20, 30));
        }
        for (int crease = 0; crease <= 6; crease++) {
            CHECK.same("fold in " + crease, Books.three().fold(crease, 1, 1, 20, 30), 3);
        }
        CHECK.refused("without a spread", INDEX, Books::none, w -> w.fold(0, 1, 1, 0, 1));
        CHECK.refused("crease 1 of an empty one", INDEX, Books::empty, w -> w.fold(1, 1, 1, 0, 1));
        CHECK.refused("crease 49 of a full one", INDEX, Books::full, w -> w.fold(49, 1, 1, 230, 240));
    }

    private static void foldLengths() {
        CHECK.says("a, b: at least 1; Throws IllegalArgumentException if it is longer than a room");
        CHECK.same("the least", Books.one().fold(1, 1, 1, 10, 20), 1);
        CHECK.same("as long as both rooms", Books.one().fold(1, 60, 30, 10, 20), 1);
        for (int wrong : new int[] {0, -1, LEAST, MOST}) {
            CHECK.refused("a " + wrong, ILLEGAL, Books::rich, w -> w.fold(1, wrong, 1, 10, 20));
            CHECK.refused("b " + wrong, ILLEGAL, Books::rich, w -> w.fold(1, 1, wrong, 10, 20));
        }
        CHECK.refused("a beyond", ILLEGAL, Books::rich, w -> w.fold(1, 61, 30, 10, 20));
        CHECK.refused("b beyond", ILLEGAL, Books::rich, w -> w.fold(1, 60, 31, 10, 20));
    }

    private static void foldPart() {
        CHECK.says("low: where its part of y begins; high: where it ends, greater; .. or not in the part of y");
        CHECK.same("all of it", Books.one().fold(1, 1, 1, 10, 70), 1);
        CHECK.same("the lowest line", Books.one().fold(1, 1, 1, 10, 11), 1);
        CHECK.same("the highest line", Books.one().fold(2, 1, 1, 69, 70), 1);
        int[][] wrong = {{9, 70}, {10, 71}, {30, 30}, {31, 30}, {10, 10}, {70, 70}, {LEAST, 70}, {10, MOST},
            {MOST, LEAST}, {LEAST, MOST}, {0, 10}, {70, 80}};
        for (int[] y : wrong) {
            CHECK.refused(y[0] + " to " + y[1], ILLEGAL, Books::rich, w -> w.fold(1, 1, 1, y[0], y[1]));
        }
    }

    private static Popupwright wide() {
        Popupwright w = Books.empty();
        w.fold(0, 100, 100, 10, 70);
        return w;
    }

    private static void noRoom() {
        CHECK.says("A crease with a room of 0 holds no fold.");
        CHECK.same("left room", wide().room(1, true), 0);
        CHECK.same("right room", wide().room(2, false), 0);
        CHECK.same("the other rooms", wide().room(1, false) + wide().room(2, true), 200);
        for (int a = 0; a < 2; a++) {
            for (int b = 0; b < 2; b++) {
                int left = a;
                int right = b;
                CHECK.refused("no left room", ILLEGAL, EdgeSpreadTest::wide, w -> w.fold(1, left, right, 10, 70));
                CHECK.refused("no right room", ILLEGAL, EdgeSpreadTest::wide, w -> w.fold(2, left, right, 10, 70));
            }
        }
        Popupwright nearly = Books.empty();
        nearly.fold(0, 99, 99, 10, 70);
        CHECK.same("a left room of 1", nearly.fold(1, 1, 99, 10, 70), 1);
        CHECK.same("a right room of 1", nearly.fold(2, 99, 1, 10, 70), 2);
    }

    private static void creaseNumbers() {
        CHECK.says("Creases are numbered so: the fold f makes 2 f + 1 and 2 f + 2.");
        Popupwright w = Books.empty();
        for (int f = 0; f < 24; f++) {
            w.fold(0, 10 + f, 40 + f, f, f + 1);
        }
        for (int f = 0; f < 24; f++) {
            CHECK.same("left room of 2 f + 1", w.room(2 * f + 1, true), 90 - f);
            CHECK.same("right room of 2 f + 1", w.room(2 * f + 1, false), 40 + f);
            CHECK.same("left room of 2 f + 2", w.room(2 * f + 2, true), 10 + f);
            CHECK.same("right room of 2 f + 2", w.room(2 * f + 2, false), 60 - f);
        }
        CHECK.fails("crease 49", INDEX, () -> w.room(49, true));
    }

    private static void mostFolds() {
        CHECK.says("At most 24 folds are numbered from 0. Throws IllegalStateException if there are 24");
        Popupwright w = Books.empty();
        for (int f = 0; f < 24; f++) {
            CHECK.same("a fold", w.fold(2 * f, 1, 1, 0, 80), f);
        }
        CHECK.same("folds", w.folds(), 24);
        CHECK.fails("one more", STATE, () -> w.fold(48, 1, 1, 0, 80));
        CHECK.same("folds then", w.folds(), 24);
        CHECK.refused("the 25th", STATE, Books::full, b -> b.fold(0, 1, 1, 250, 260));
        CHECK.refused("the 25th, restored", STATE, Books::full, b -> b.restore(0, 2, 1, true, 250, 260));
        Popupwright again = Books.full();
        again.spread(20, 20);
        CHECK.same("in the next book", again.fold(0, 1, 1, 0, 1), 0);
    }

    private static void foldOrderOfExceptions() {
        CHECK.says("If several exceptions apply, the one that is listed first is thrown: fold");
        CHECK.refused("no crease, no length, full", INDEX, Books::full, w -> w.fold(49, 0, 0, 5, 5));
        CHECK.refused("no length, full", ILLEGAL, Books::full, w -> w.fold(0, 0, 1, 0, 10));
        CHECK.refused("no part of y, full", ILLEGAL, Books::full, w -> w.fold(0, 1, 1, 5, 5));
        CHECK.refused("no crease, no length", INDEX, Books::rich, w -> w.fold(7, 0, 0, 5, 5));
    }

    private static void roomNeedsACrease() {
        CHECK.says("room: Throws IndexOutOfBoundsException if there is no such crease");
        CHECK.same("the last one", Books.three().room(6, false), 20);
        CHECK.same("the last one of a full book", Books.full().room(48, false), 380);
        for (int crease : new int[] {-1, 7, 48, 49, LEAST, MOST}) {
            CHECK.refused("left of " + crease, INDEX, Books::rich, w -> w.room(crease, true));
            CHECK.refused("right of " + crease, INDEX, Books::rich, w -> w.room(crease, false));
        }
        CHECK.refused("49 of a full book", INDEX, Books::full, w -> w.room(49, true));
        CHECK.refused("without a spread", INDEX, Books::none, w -> w.room(0, false));
        CHECK.same("its creases stay when it is torn", Books.torn().room(1, true), 60);
    }

    private static void armNeedsAFold() {
        CHECK.says("arm: Throws IndexOutOfBoundsException if there is no such fold");
        for (int fold : new int[] {-1, 3, 23, 24, LEAST, MOST}) {
            CHECK.refused("arm of " + fold, INDEX, Books::rich, w -> w.arm(fold, true, 1, 20, 30));
        }
        CHECK.refused("without a spread", INDEX, Books::none, w -> w.arm(0, true, 1, 0, 1));
        CHECK.refused("of an empty book", INDEX, Books::empty, w -> w.arm(0, true, 1, 0, 1));
        CHECK.refused("24 of a full book", INDEX, Books::full, w -> w.arm(24, true, 1, 0, 1));
        CHECK.same("23 of a full book", Books.full().arm(23, false, 1, 230, 231), 95);
    }

    private static void armLengths() {
        CHECK.says("length: 1 to 400");
        for (int last : new int[] {1, 400}) {
            Popupwright w = Books.one();
            CHECK.same("first arm " + last, w.arm(0, true, last, 10, 70), 2);
            CHECK.same("its end", w.above(2, last, 9), 65 * (30 + last));
            CHECK.same("second arm " + last, w.arm(0, false, last, 10, 70), 3);
            CHECK.same("its end", w.across(3, last, 9), 65 * (40 + last));
        }
        for (int wrong : new int[] {0, 401, -1, LEAST, MOST}) {
            CHECK.refused("first arm " + wrong, ILLEGAL, Books::three, w -> w.arm(0, true, wrong, 10, 70));
            CHECK.refused("second arm " + wrong, ILLEGAL, Books::three, w -> w.arm(0, false, wrong, 10, 70));
        }
    }

    private static void armPart() {
        CHECK.says("arm: low, high, greater; .. or it is not in the part of y");
        CHECK.same("all of it", Books.one().arm(0, true, 1, 10, 70), 2);
        CHECK.same("the lowest line", Books.one().arm(0, true, 1, 10, 11), 2);
        CHECK.same("the highest line", Books.one().arm(0, false, 1, 69, 70), 3);
        int[][] wrong = {{9, 70}, {10, 71}, {30, 30}, {31, 30}, {10, 10}, {70, 70}, {LEAST, 70}, {10, MOST}};
        for (int[] y : wrong) {
            CHECK.refused(y[0] + " to " + y[1], ILLEGAL, Books::three, w -> w.arm(0, true, 1, y[0], y[1]));
        }
    }

    private static void oneArmOnEachPanel() {
        CHECK.says("each panel has one at most. Throws UnsupportedOperationException if there is one");
        Popupwright w = Books.three();
        CHECK.same("on the first panel", w.arm(1, true, 3, 10, 20), 6);
        CHECK.fails("one more there", UNSUPPORTED, () -> w.arm(1, true, 4, 20, 30));
        CHECK.same("the one is as it was", w.above(6, 3, 9), 65 * 18);
        CHECK.fails("no longer", ILLEGAL, () -> w.across(6, 4, 9));
        CHECK.same("on the second panel", w.arm(1, false, 3, 10, 20), 7);
        CHECK.fails("one more there", UNSUPPORTED, () -> w.arm(1, false, 4, 20, 30));
        CHECK.refused("there is one", UNSUPPORTED, Books::rich, b -> b.arm(0, true, 30, 10, 70));
        CHECK.refused("there is one on the second panel", UNSUPPORTED, Books::rich, b -> b.arm(2, false, 7, 20, 60));
        CHECK.refused("there is one on a torn fold", UNSUPPORTED, Books::torn, b -> b.arm(0, true, 30, 10, 70));
    }

    private static void armOrderOfExceptions() {
        CHECK.says("If several exceptions apply, the one that is listed first is thrown: arm");
        CHECK.refused("no fold, no length", INDEX, Books::rich, w -> w.arm(3, true, 0, 5, 5));
        CHECK.refused("no length, there is one", ILLEGAL, Books::rich, w -> w.arm(0, true, 401, 10, 70));
        CHECK.refused("no part of y, there is one", ILLEGAL, Books::rich, w -> w.arm(0, true, 1, 9, 70));
    }

    private static void stripNumbers() {
        CHECK.says("across, above, apart: Throws IndexOutOfBoundsException if there is no such strip");
        for (int strip : new int[] {-1, -2, 3, 6, 7, 10, 12, 13, 95, 96, LEAST, MOST}) {
            CHECK.refused("across of " + strip, INDEX, Books::rich, w -> w.across(strip, 0, 5));
            CHECK.refused("above of " + strip, INDEX, Books::rich, w -> w.above(strip, 0, 5));
            CHECK.refused("apart of " + strip, INDEX, Books::rich, w -> w.apart(strip, 0, 5));
            CHECK.refused("apart to " + strip, INDEX, Books::rich, w -> w.apart(0, strip, 5));
        }
        for (int strip : new int[] {0, 1, 2, 8, 9, 11}) {
            CHECK.same("of " + strip, Books.rich().above(strip, 0, 0), 0);
            CHECK.refused("of " + strip + ", torn", INDEX, EdgeSpreadTest::allTorn, w -> w.above(strip, 0, 0));
            CHECK.refused("of " + strip + ", torn", INDEX, EdgeSpreadTest::allTorn, w -> w.across(strip, 0, 0));
            CHECK.refused("of " + strip + ", torn", INDEX, EdgeSpreadTest::allTorn, w -> w.apart(strip, strip, 0));
        }
        CHECK.same("the last one of a full book", Books.full().above(93, 20, 9), 65 * 20);
        CHECK.fails("96 of a full book", INDEX, () -> Books.full().above(96, 0, 9));
    }

    private static Popupwright allTorn() {
        Popupwright w = Books.rich();
        w.open(18, 9999);
        return w;
    }

    private static void placesOfStrips() {
        CHECK.says("place: the place of its length, from 0; Throws IllegalArgumentException if there is no such place");
        int[] lengths = {30, 40, 25};
        for (int strip = 0; strip < 3; strip++) {
            int n = strip;
            CHECK.same("the first place", Books.rich().across(n, 0, 9), n == 1 ? 0 : 2600);
            CHECK.same("the last place", Books.rich().across(n, lengths[n], 9), 2600);
            for (int wrong : new int[] {-1, lengths[n] + 1, LEAST, MOST}) {
                CHECK.refused("across at " + wrong, ILLEGAL, Books::rich, w -> w.across(n, wrong, 5));
                CHECK.refused("above at " + wrong, ILLEGAL, Books::rich, w -> w.above(n, wrong, 5));
            }
        }
    }

    private static void steps() {
        CHECK.says("step: the step, 0 to 18");
        for (int step : new int[] {-1, 19, LEAST, MOST}) {
            CHECK.refused("across in " + step, ILLEGAL, Books::rich, w -> w.across(0, 0, step));
            CHECK.refused("above in " + step, ILLEGAL, Books::rich, w -> w.above(0, 0, step));
            CHECK.refused("apart in " + step, ILLEGAL, Books::rich, w -> w.apart(0, 1, step));
        }
        CHECK.says("c being 65, 63, 60, 56, 52, 39, 33, 25, 16, 0 .. and less than 0 in the turned order");
        int[] c = {65, 63, 60, 56, 52, 39, 33, 25, 16, 0};
        int[] s = {0, 16, 25, 33, 39, 52, 56, 60, 63, 65};
        for (int step = 0; step < 10; step++) {
            CHECK.same("c in " + step, Books.one().across(0, 1, step), 2600 + c[step]);
            CHECK.same("c in " + (18 - step), Books.one().across(0, 1, 18 - step), 2600 - c[step]);
            CHECK.same("s in " + step, Books.one().above(0, 1, step), s[step]);
            CHECK.same("s in " + (18 - step), Books.one().above(0, 1, 18 - step), s[step]);
        }
    }

    private static void shutAndFlat() {
        CHECK.says("In the step 0 the book is shut, in the step 18 it is flat.");
        Popupwright w = Books.rich();
        for (int strip : new int[] {0, 1, 2}) {
            CHECK.same("shut, nothing rises", w.above(strip, 20, 0), 0);
            CHECK.same("flat, nothing rises", w.above(strip, 20, 18), 0);
        }
        CHECK.same("shut, it lies at i + j", w.across(2, 25, 0), 65 * (40 + 55));
        CHECK.same("flat, it lies at i - j", w.across(2, 25, 18), 65 * (40 - 55));
        CHECK.same("upright, it stands over i", w.across(2, 25, 9), 65 * 40);
        CHECK.same("as high as j", w.above(2, 25, 9), 65 * 55);
    }

    private static void placeOrderOfExceptions() {
        CHECK.says("If several exceptions apply, the one that is listed first is thrown: across, above, apart");
        CHECK.refused("across: no strip, no place, no step", INDEX, Books::rich, w -> w.across(3, -1, -1));
        CHECK.refused("above: no strip, no place, no step", INDEX, Books::rich, w -> w.above(3, -1, 19));
        CHECK.refused("apart: no strip, no step", INDEX, Books::rich, w -> w.apart(3, 0, 19));
        CHECK.refused("apart: no other strip, no step", INDEX, Books::rich, w -> w.apart(0, 3, -1));
        CHECK.refused("without a spread", INDEX, Books::none, w -> w.across(0, -1, 19));
    }

    private static void distances() {
        CHECK.says("Returns the square, from the end of the one to the end of the other.");
        Popupwright w = new Popupwright();
        w.spread(400, 400);
        w.fold(0, 1, 1, 0, 400);
        w.arm(0, true, 400, 0, 400);
        w.arm(0, false, 400, 0, 400);
        CHECK.same("both panels end at the ridge", w.apart(0, 1, 18), 0);
        CHECK.same("as far as arms are long", w.apart(0, 2, 3), 26000L * 26000L);
        CHECK.same("flat, on both sides", w.apart(2, 3, 18), 52000L * 52000L);
        CHECK.same("and back", w.apart(3, 2, 18), 52000L * 52000L);
        CHECK.same("shut, one lies on the other", w.apart(2, 3, 0), 0);
        CHECK.same("upright, a right angle", w.apart(2, 3, 9), 2L * 26000L * 26000L);
    }
}
