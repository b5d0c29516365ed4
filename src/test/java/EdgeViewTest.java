import java.util.NoSuchElementException;

/**
 * Each boundary that the document names in 'Layers, views', for flaps, and in the promises 14 to 20.
 */
public final class EdgeViewTest {
    private static final Check CHECK = new Check("EdgeViewTest");
    private static final Class<IndexOutOfBoundsException> INDEX = IndexOutOfBoundsException.class;
    private static final Class<IllegalArgumentException> ILLEGAL = IllegalArgumentException.class;
    private static final Class<IllegalStateException> STATE = IllegalStateException.class;
    private static final Class<NoSuchElementException> MISSING = NoSuchElementException.class;
    private static final Class<UnsupportedOperationException> UNSUPPORTED = UnsupportedOperationException.class;
    private static final int LEAST = Integer.MIN_VALUE;
    private static final int MOST = Integer.MAX_VALUE;

    public static void main(String[] args) {
        steps();
        nothingSeen();
        upright();
        edgesAcross();
        edgesAlong();
        pagesAcross();
        pagesAlong();
        beyondThePage();
        highest();
        lowestNumber();
        pagesAreLast();
        pictureNeedsAStrip();
        picturePlaces();
        picturePart();
        colours();
        mostPictures();
        pictureOrderOfExceptions();
        colourPlaces();
        edgesOfPictures();
        laterOnes();
        wholeRefused();
        corners();
        onlyCorners();
        firstStep();
        lastStep();
        noStep();
        flapRefused();
        flapCounts();
        turnRefused();
        flapsHide();
        torn();
        CHECK.end();
    }

    private static void see(String what, Popupwright w, int step, int x, int y, int due) {
        CHECK.same(what + ": sees(" + step + ", " + x + ", " + y + ")", w.sees(step, x, y), due);
    }

    private static void blind(String what, Popupwright w, int step, int x, int y) {
        CHECK.fails(what + ": sees(" + step + ", " + x + ", " + y + ")", MISSING, () -> w.sees(step, x, y));
    }

    private static void steps() {
        CHECK.says("sees: step: the step, 1 to 17; Throws IllegalArgumentException if there is no such step");
        see("the first one", Books.rich(), 1, 0, 0, -1);
        see("the last one", Books.rich(), 17, 0, 0, -1);
        for (int step : new int[] {0, 18, -1, 19, LEAST, MOST}) {
            CHECK.refused("step " + step, ILLEGAL, Books::rich, w -> w.sees(step, 100, 40));
            CHECK.refused("step " + step + ", nothing there", ILLEGAL, Books::rich, w -> w.sees(step, MOST, -1));
            CHECK.refused("step " + step + ", no spread", ILLEGAL, Books::none, w -> w.sees(step, 0, 0));
        }
    }

    private static void nothingSeen() {
        CHECK.says("sees: Throws NoSuchElementException if it sees none");
        for (int step : new int[] {1, 9, 17}) {
            CHECK.refused("no spread", MISSING, Books::none, w -> w.sees(step, 0, 0));
            for (int x : new int[] {LEAST, -6501, 6501, MOST}) {
                CHECK.refused("x " + x, MISSING, Books::rich, w -> w.sees(step, x, 40));
            }
            for (int y : new int[] {LEAST, -1, 81, MOST}) {
                CHECK.refused("y " + y, MISSING, Books::rich, w -> w.sees(step, 0, y));
            }
        }
    }

    private static void upright() {
        CHECK.says("of the right way if c is not 0, and of the left way");
        Popupwright w = Books.one();
        w.arm(0, true, 25, 10, 70);
        see("upright, neither the panel nor the arm of the right way", w, 9, 2600, 40, 1);
        see("upright, not the right page", w, 9, 0, 5, -1);
        see("a step ahead, the arm", w, 8, 2600 + 16 * 55, 40, 2);
        see("a step behind, the arm", w, 10, 2600 - 16 * 55, 40, 2);
        blind("upright, not what is of the right way alone", beyond(), 9, 6501, 40);
    }

    private static void edgesAcross() {
        CHECK.says("Ends and edges, lower and upper, belong to strips and pictures.");
        Popupwright w = Books.one();
        w.arm(0, true, 25, 20, 60);
        w.arm(0, false, 20, 20, 60);
        see("the beginning of the second panel", w, 13, -1170, 40, 1);
        see("beyond it", w, 13, -1171, 40, -2);
        see("the beginning of the first panel", w, 13, 2600, 15, 0);
        see("beyond it", w, 13, 2601, 15, -1);
        see("the end of the first arm", w, 13, 2600 - 39 * 55, 40, 2);
        see("beyond it, under the second panel", w, 13, 2600 - 39 * 55 - 1, 40, 1);
        see("the end of the second arm", w, 9, 65 * 60, 40, 3);
        see("beyond it", w, 9, 65 * 60 + 1, 40, -1);
        Popupwright nested = Books.one();
        nested.fold(1, 20, 15, 10, 40);
        see("the beginning of a panel that does not begin at the gutter", nested, 14, 2600 - 52 * 15, 20, 0);
        see("the place behind that one is its own", nested, 13, 65 * 60 - 39 * 15, 20, 4);
        see("the end of its first panel", nested, 13, 65 * 60, 20, 4);
        see("beyond it", nested, 13, 65 * 60 + 1, 20, -1);
        see("its second panel", nested, 9, 65 * 60, 20, 5);
        see("beyond that", nested, 9, 65 * 60 + 1, 20, -1);
    }

    private static void edgesAlong() {
        CHECK.says("Ends and edges, lower and upper, belong to strips");
        Popupwright w = Books.one();
        w.arm(0, false, 20, 20, 60);
        see("the lower edge", w, 9, 100, 10, 1);
        see("below it", w, 9, 100, 9, -1);
        see("the upper edge", w, 9, 100, 70, 1);
        see("above it", w, 9, 100, 71, -1);
        see("the lower edge of an arm", w, 9, 3000, 20, 3);
        see("below it", w, 9, 3000, 19, -1);
        see("the upper edge of an arm", w, 9, 3000, 60, 3);
        see("above it", w, 9, 3000, 61, -1);
    }

    private static void pagesAcross() {
        CHECK.says("the pages are seen, .. the left one of the left way, the right one of the right way");
        Popupwright w = Books.empty();
        see("the gutter, upright", w, 9, 0, 40, -1);
        blind("beyond the gutter, upright", w, 9, -1, 40);
        see("the end of the left page", w, 9, 6500, 40, -1);
        blind("beyond it", w, 9, 6501, 40);
        see("the end of the right page, nearly flat", w, 17, -6300, 40, -2);
        blind("beyond it", w, 17, -6301, 40);
        see("next to the gutter", w, 17, -1, 40, -2);
        see("the end of the right page, nearly shut", w, 1, 6300, 40, -2);
        see("beyond it", w, 1, 6301, 40, -1);
        see("the end of the left page, nearly shut", w, 1, 6500, 40, -1);
        blind("beyond it", w, 1, 6501, 40);
        blind("beyond the gutter, nearly shut", w, 1, -1, 40);
    }

    private static void pagesAlong() {
        CHECK.says("y: along the gutter, from 0 to the height; Ends and edges, lower and upper, belong to strips");
        Popupwright w = Books.empty();
        for (int x : new int[] {100, -100}) {
            int due = x > 0 ? -1 : -2;
            see("the lower edge", w, 13, x, 0, due);
            see("the upper edge", w, 13, x, 80, due);
            blind("below", w, 13, x, -1);
            blind("above", w, 13, x, 81);
        }
    }

    /** An arm of the right way goes out of the book, and is seen there. */
    private static Popupwright beyond() {
        Popupwright w = Books.one();
        w.arm(0, true, 400, 10, 70);
        return w;
    }

    private static void beyondThePage() {
        CHECK.says("it sees the strip that stands highest there, of the right way if c is not 0");
        Popupwright w = beyond();
        int end = 2600 + 39 * 430;
        see("beyond both pages", w, 5, end, 40, 2);
        blind("beyond its end", w, 5, end + 1, 40);
        see("the right page's end stands higher", w, 5, 3900, 40, -2);
        see("beyond that, the ridge's arm", w, 5, 3901, 40, 2);
        see("far to the left", w, 13, 2600 - 39 * 430, 40, 2);
        blind("beyond its end", w, 13, 2600 - 39 * 430 - 1, 40);
    }

    private static void highest() {
        CHECK.says("it sees the strip that stands highest there");
        Popupwright w = Books.one();
        w.fold(0, 40, 31, 10, 70);
        see("one higher by 1", w, 9, 100, 40, 5);
        w.fold(0, 40, 29, 10, 70);
        see("one lower by 1 changes nothing", w, 9, 100, 40, 5);
        see("a panel of the right way under one of the left way", w, 13, 1000, 40, 5);
        see("a panel of the right way over the left page", w, 13, 2500, 40, 0);
    }

    private static void lowestNumber() {
        CHECK.says("of those as high the one with the lowest number");
        Popupwright w = Books.one();
        see("the ridge: the first panel", w, 13, 1430, 40, 0);
        see("beside it: the second one", w, 13, 1429, 40, 1);
        w.fold(0, 60, 30, 10, 70);
        see("both second panels", w, 9, 100, 40, 1);
        see("the end of the lower one", w, 9, 2600, 40, 1);
        see("beyond it", w, 9, 2601, 40, 5);
        w.arm(0, false, 10, 10, 70);
        see("an arm of the lower fold", w, 9, 2601, 40, 3);
        see("its end", w, 9, 3250, 40, 3);
        see("beyond it", w, 9, 3251, 40, 5);
    }

    private static void pagesAreLast() {
        CHECK.says("with numbers above all others, the left one ahead");
        see("both pages, at the gutter", Books.empty(), 13, 0, 40, -1);
        see("both pages, at the gutter", Books.empty(), 5, 0, 40, -1);
        see("a panel as high as the left page", Books.one(), 13, 2600, 40, 0);
        see("a panel as high as the right page", Books.one(), 13, -1170, 40, 1);
        Popupwright w = Books.full();
        see("a late one as high as the left page", w, 13, 1300, 235, 92);
        see("a late one as high as the right page", w, 13, -39 * 20, 235, 93);
    }

    private static void pictureNeedsAStrip() {
        CHECK.says("picture: Throws IndexOutOfBoundsException if there is no such strip");
        for (int strip : new int[] {-1, -2, 3, 6, 10, 12, 96, LEAST, MOST}) {
            CHECK.refused("strip " + strip, INDEX, Books::rich, w -> w.picture(strip, 0, 1, 20, 30, 1));
        }
        CHECK.refused("without a spread", INDEX, Books::none, w -> w.picture(0, 0, 1, 0, 1, 1));
        CHECK.refused("of a torn fold", INDEX, Books::torn, w -> w.picture(0, 0, 1, 20, 30, 1));
        CHECK.same("the last strip", Books.rich().picture(11, 0, 5, 20, 60, 1), 3);
    }

    private static void picturePlaces() {
        CHECK.says("from: the place of its length where it begins; to: where it ends, greater");
        CHECK.same("all of it", Books.one().picture(0, 0, 30, 10, 70, 1), 0);
        CHECK.same("the first place", Books.one().picture(0, 0, 1, 10, 70, 1), 0);
        CHECK.same("the last place", Books.one().picture(0, 29, 30, 10, 70, 1), 0);
        int[][] wrong = {{-1, 30}, {0, 31}, {7, 7}, {8, 7}, {30, 30}, {30, 31}, {-1, 0}, {LEAST, 5}, {5, MOST},
            {MOST, LEAST}};
        for (int[] p : wrong) {
            CHECK.refused(p[0] + " to " + p[1], ILLEGAL, Books::rich, w -> w.picture(0, p[0], p[1], 10, 70, 1));
        }
    }

    private static void picturePart() {
        CHECK.says("low: where its part of y begins; high: where it ends, greater");
        CHECK.same("the lowest line", Books.rich().picture(2, 0, 25, 10, 11, 1), 3);
        CHECK.same("the highest line", Books.rich().picture(11, 0, 5, 59, 60, 1), 3);
        int[][] wrong = {{19, 60}, {20, 61}, {30, 30}, {31, 30}, {20, 20}, {60, 60}, {LEAST, 60}, {20, MOST}};
        for (int[] y : wrong) {
            CHECK.refused(y[0] + " to " + y[1], ILLEGAL, Books::rich, w -> w.picture(11, 0, 5, y[0], y[1], 1));
        }
    }

    private static void colours() {
        CHECK.says("colour: 1 to 99");
        for (int colour : new int[] {1, 99}) {
            Popupwright w = Books.one();
            w.picture(0, 0, 30, 10, 70, colour);
            CHECK.same("colour " + colour, w.colourAt(0, 5, 20), colour);
        }
        for (int colour : new int[] {0, 100, -1, LEAST, MOST}) {
            CHECK.refused("colour " + colour, ILLEGAL, Books::rich, w -> w.picture(0, 0, 30, 10, 70, colour));
        }
    }

    private static void mostPictures() {
        CHECK.says("picture: Throws IllegalStateException if there are 30");
        Popupwright w = Books.one();
        for (int n = 0; n < 30; n++) {
            CHECK.same("a picture", w.picture(n % 2, 0, 30, 10, 70, 99 - n), n);
        }
        CHECK.same("the last one is there", w.colourAt(1, 5, 20), 70);
        CHECK.fails("one more", STATE, () -> w.picture(1, 0, 30, 10, 70, 1));
        CHECK.same("the last one lies over all", w.colourAt(1, 5, 20), 70);
        CHECK.refused("the 31st", STATE, Books::full, b -> b.picture(0, 0, 20, 0, 10, 1));
        w.spread(100, 80);
        w.fold(0, 40, 30, 10, 70);
        CHECK.same("in the next book", w.picture(0, 0, 30, 10, 70, 1), 0);
    }

    private static void pictureOrderOfExceptions() {
        CHECK.says("If several exceptions apply, the one that is listed first is thrown: picture");
        CHECK.refused("no strip, no place, full", INDEX, Books::full, w -> w.picture(96, 5, 5, 5, 5, 0));
        CHECK.refused("no place, full", ILLEGAL, Books::full, w -> w.picture(0, 0, 21, 0, 10, 1));
        CHECK.refused("no colour, full", ILLEGAL, Books::full, w -> w.picture(0, 0, 20, 0, 10, 100));
        CHECK.refused("no strip, no colour", INDEX, Books::rich, w -> w.picture(3, 0, 1, 20, 30, 0));
    }

    private static void colourPlaces() {
        CHECK.says("colourAt: Throws IllegalArgumentException if it is not on the strip");
        CHECK.same("the lowest corner", Books.one().colourAt(0, 0, 10), 0);
        CHECK.same("the highest corner", Books.one().colourAt(0, 30, 70), 0);
        for (int place : new int[] {-1, 31, LEAST, MOST}) {
            CHECK.refused("place " + place, ILLEGAL, Books::rich, w -> w.colourAt(0, place, 20));
        }
        for (int y : new int[] {9, 71, LEAST, MOST}) {
            CHECK.refused("y " + y, ILLEGAL, Books::rich, w -> w.colourAt(0, 5, y));
        }
        for (int y : new int[] {19, 61}) {
            CHECK.refused("y " + y + " of an arm", ILLEGAL, Books::rich, w -> w.colourAt(11, 5, y));
        }
        CHECK.says("colourAt: Throws IndexOutOfBoundsException if there is no such strip");
        for (int strip : new int[] {-1, -2, 3, 12, 96, LEAST, MOST}) {
            CHECK.refused("strip " + strip, INDEX, Books::rich, w -> w.colourAt(strip, 0, 20));
            CHECK.refused("strip " + strip + ", no place", INDEX, Books::rich, w -> w.colourAt(strip, -1, -1));
        }
        CHECK.refused("of a torn fold", INDEX, Books::torn, w -> w.colourAt(1, 5, 18));
    }

    private static void edgesOfPictures() {
        CHECK.says("Ends and edges, lower and upper, belong to strips and pictures. .. 0 without a picture");
        Popupwright w = Books.one();
        w.picture(1, 5, 35, 15, 65, 7);
        int[][] due = {{5, 15, 7}, {35, 65, 7}, {5, 65, 7}, {35, 15, 7}, {4, 40, 0}, {36, 40, 0}, {20, 14, 0},
            {20, 66, 0}, {0, 10, 0}, {40, 70, 0}};
        for (int[] d : due) {
            CHECK.same("at " + d[0] + " " + d[1], w.colourAt(1, d[0], d[1]), d[2]);
        }
        CHECK.same("on the other strip", w.colourAt(0, 20, 40), 0);
    }

    private static void laterOnes() {
        CHECK.says("later ones lie over earlier ones");
        Popupwright w = Books.one();
        w.picture(1, 5, 20, 15, 65, 7);
        w.picture(1, 20, 35, 15, 65, 9);
        CHECK.same("the later one has the edge", w.colourAt(1, 20, 40), 9);
        CHECK.same("beside it", w.colourAt(1, 19, 40), 7);
        w.picture(1, 0, 40, 10, 70, 7);
        CHECK.same("the last one has all", w.colourAt(1, 20, 40), 7);
    }

    private static void wholeRefused() {
        CHECK.says("isWhole: Throws IndexOutOfBoundsException if there is no such picture");
        for (int picture : new int[] {-1, 3, 29, 30, LEAST, MOST}) {
            CHECK.refused("picture " + picture, INDEX, Books::rich, w -> w.isWhole(picture, 9));
            CHECK.refused("picture " + picture + ", no step", INDEX, Books::rich, w -> w.isWhole(picture, 0));
        }
        CHECK.refused("without a spread", INDEX, Books::none, w -> w.isWhole(0, 9));
        CHECK.refused("30 of a full book", INDEX, Books::full, w -> w.isWhole(30, 9));
        CHECK.says("isWhole: Throws IllegalArgumentException if there is no such step");
        for (int step : new int[] {0, 18, -1, LEAST, MOST}) {
            CHECK.refused("step " + step, ILLEGAL, Books::rich, w -> w.isWhole(0, step));
        }
        CHECK.no("the first step", Books.rich().isWhole(0, 1));
        CHECK.yes("the last step", first(0, 30).isWhole(0, 17));
        CHECK.no("the last picture", Books.full().isWhole(29, 1));
    }

    /** A picture on the first panel of one fold. */
    private static Popupwright first(int from, int to) {
        Popupwright w = Books.one();
        w.picture(0, from, to, 10, 70, 1);
        return w;
    }

    /**
     * A picture at 10 to 30 of a second panel, with its part of y 20 to 40; the fold 0 is torn, so that another
     * fold can hide, upright, but what is behind the place 25.
     */
    private static Popupwright pictured() {
        Popupwright w = Books.empty();
        w.fold(0, 25, 60, 0, 80);
        w.open(18, 9999);
        w.fold(0, 40, 30, 10, 70);
        w.picture(5, 10, 30, 20, 40, 1);
        return w;
    }

    private static boolean isWholeUnder(int crease, int a, int b, int low, int high) {
        Popupwright w = pictured();
        w.fold(crease, a, b, low, high);
        return w.isWhole(0, 9);
    }

    private static void corners() {
        CHECK.says("A picture is whole in a step if each of its corners is where the eye sees its strip.");
        CHECK.yes("nothing hides it", pictured().isWhole(0, 9));
        CHECK.no("the corner from, low", isWholeUnder(4, 10, 5, 10, 20));
        CHECK.yes("nearly that one, by place", isWholeUnder(4, 9, 5, 10, 20));
        CHECK.yes("nearly that one, by y", isWholeUnder(4, 29, 5, 10, 19));
        CHECK.no("the corner from, high", isWholeUnder(4, 10, 5, 40, 50));
        CHECK.yes("nearly that one, by place", isWholeUnder(4, 9, 5, 40, 50));
        CHECK.yes("nearly that one, by y", isWholeUnder(4, 29, 5, 41, 50));
        CHECK.no("the corner to, low", isWholeUnder(1, 5, 50, 10, 20));
        CHECK.yes("nearly that one, by place", isWholeUnder(1, 4, 50, 10, 20));
        CHECK.yes("nearly that one, by y", isWholeUnder(1, 5, 50, 10, 19));
        CHECK.no("the corner to, high", isWholeUnder(1, 5, 50, 40, 50));
        CHECK.yes("nearly that one, by place", isWholeUnder(1, 4, 50, 40, 50));
        CHECK.yes("nearly that one, by y", isWholeUnder(1, 5, 50, 41, 50));
    }

    private static void onlyCorners() {
        CHECK.says("if each of its corners is where the eye sees its strip");
        CHECK.yes("hidden between its corners, across", isWholeUnder(1, 4, 50, 10, 70));
        CHECK.yes("hidden between its corners, along", isWholeUnder(4, 40, 5, 21, 39));
        CHECK.no("upright, what goes along the right way is not seen", first(0, 30).isWhole(0, 9));
        CHECK.yes("but in the next step", first(0, 30).isWhole(0, 10));
        Popupwright second = Books.one();
        second.picture(1, 10, 40, 10, 70, 1);
        CHECK.no("at the ridge the first panel is seen", second.isWhole(0, 13));
        second.picture(1, 10, 39, 10, 70, 1);
        CHECK.yes("short of it", second.isWhole(1, 13));
    }

    private static void firstStep() {
        CHECK.says("Returns the first step in which all pictures are whole.");
        Popupwright w = beyond();
        w.picture(2, 30, 40, 10, 70, 1);
        CHECK.yes("whole in the first step", w.isWhole(0, 1));
        CHECK.same("the first step", w.showStep(), 1);
        w.picture(2, 60, 70, 10, 70, 1);
        CHECK.same("two pictures, the first step", w.showStep(), 1);
        Popupwright far = beyond();
        far.picture(2, 60, 70, 10, 70, 1);
        CHECK.same("shut, far beyond both pages, is no step for an eye", far.showStep(), 1);
        w.picture(1, 0, 39, 10, 70, 1);
        CHECK.no("one that is not", w.isWhole(2, 1));
        CHECK.yes("but in the step 6", w.isWhole(2, 6));
        CHECK.same("so are all", w.showStep(), 6);
    }

    private static void lastStep() {
        CHECK.says("Returns the first step in which all pictures are whole: the step 17");
        Popupwright w = new Popupwright();
        w.spread(400, 400);
        w.fold(0, 200, 10, 0, 400);
        w.fold(0, 20, 75, 0, 400);
        w.arm(1, false, 150, 0, 400);
        w.picture(1, 109, 110, 10, 70, 1);
        for (int step = 1; step < 17; step++) {
            CHECK.no("hidden in the step " + step, w.isWhole(0, step));
        }
        CHECK.yes("whole in the step 17", w.isWhole(0, 17));
        CHECK.same("the step 17", w.showStep(), 17);
    }

    /** A picture that would be seen in the step 18 alone, where all lies as high. */
    private static Popupwright hidden() {
        Popupwright w = Books.empty();
        w.fold(0, 10, 5, 10, 70);
        w.fold(0, 60, 20, 10, 70);
        w.picture(0, 0, 4, 10, 70, 1);
        return w;
    }

    private static void noStep() {
        CHECK.says("showStep: Throws NoSuchElementException if there is none, or no picture");
        CHECK.refused("no spread", MISSING, Books::none, w -> w.showStep());
        CHECK.refused("no picture", MISSING, Books::three, w -> w.showStep());
        CHECK.refused("none: flat, it is no step for an eye", MISSING, EdgeViewTest::hidden, w -> w.showStep());
        CHECK.refused("none for all", MISSING, Books::rich, w -> w.showStep());
        CHECK.refused("of a torn fold", MISSING, Books::torn, w -> w.showStep());
    }

    private static void flapRefused() {
        CHECK.says("flap: Throws IndexOutOfBoundsException if there is no such picture");
        for (int picture : new int[] {-1, 3, 29, 30, LEAST, MOST}) {
            CHECK.refused("picture " + picture, INDEX, Books::rich, w -> w.flap(picture));
        }
        CHECK.refused("without a spread", INDEX, Books::none, w -> w.flap(0));
        CHECK.refused("30 of a full book", INDEX, Books::full, w -> w.flap(30));
        CHECK.says("flap: Throws UnsupportedOperationException if it has one");
        CHECK.refused("it is down", UNSUPPORTED, Books::rich, w -> w.flap(1));
        CHECK.refused("it is up", UNSUPPORTED, Books::rich, w -> w.flap(2));
    }

    private static void flapCounts() {
        CHECK.says("Puts a flap over a picture, which is down. Returns how many flaps there are.");
        Popupwright w = Books.full();
        for (int n = 29; n >= 0; n--) {
            CHECK.same("flaps", w.flap(n), 30 - n);
        }
        CHECK.no("turned, it is up", w.turn(0));
        CHECK.yes("turned again, it is down", w.turn(0));
        CHECK.no("the last one, turned", w.turn(29));
        CHECK.fails("a flap that is up is a flap", UNSUPPORTED, () -> w.flap(29));
        CHECK.same("flaps that are up count", Books.rich().flap(0), 3);
    }

    private static void turnRefused() {
        CHECK.says("turn: Throws IndexOutOfBoundsException if there is no such picture");
        for (int picture : new int[] {-1, 3, 29, 30, LEAST, MOST}) {
            CHECK.refused("picture " + picture, INDEX, Books::rich, w -> w.turn(picture));
        }
        CHECK.refused("without a spread", INDEX, Books::none, w -> w.turn(0));
        CHECK.says("turn: Throws UnsupportedOperationException if it has none");
        CHECK.refused("it has none", UNSUPPORTED, Books::rich, w -> w.turn(0));
        CHECK.refused("it has none, of a full book", UNSUPPORTED, Books::full, w -> w.turn(29));
    }

    private static void flapsHide() {
        CHECK.says("A flap on a strip is up or down; down it hides the pictures on its place. .. 0 .. under a flap.");
        Popupwright w = Books.one();
        w.picture(1, 0, 40, 10, 70, 3);
        w.picture(1, 5, 35, 15, 65, 7);
        w.picture(1, 5, 35, 15, 65, 9);
        w.flap(1);
        int[][] due = {{5, 15, 0}, {35, 65, 0}, {20, 40, 0}, {4, 40, 3}, {36, 40, 3}, {20, 14, 3}, {20, 66, 3}};
        for (int[] d : due) {
            CHECK.same("down, at " + d[0] + " " + d[1], w.colourAt(1, d[0], d[1]), d[2]);
        }
        w.turn(1);
        CHECK.same("up, it hides nothing", w.colourAt(1, 5, 15), 9);
        w.flap(0);
        CHECK.same("one under the others hides these, too", w.colourAt(1, 5, 15), 0);
        CHECK.same("not on the other strip", w.colourAt(0, 5, 15), 0);
        w.picture(0, 0, 30, 10, 70, 4);
        CHECK.same("where another picture is seen", w.colourAt(0, 5, 15), 4);
    }

    private static void torn() {
        CHECK.says("Strips of torn folds are none");
        CHECK.no("a picture of a torn fold is whole nowhere", Books.torn().isWhole(1, 9));
        CHECK.same("it may have a flap", Books.torn().flap(0), 3);
        CHECK.no("its flap can be turned", Books.torn().turn(1));
        see("what is seen under it", Books.torn(), 9, 100, 65, -1);
        see("what was mended is seen", Books.torn(), 9, 100, 40, 9);
    }
}
