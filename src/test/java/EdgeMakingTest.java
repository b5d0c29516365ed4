import java.util.NoSuchElementException;

/**
 * Each boundary that the document names in 'Making and mending' and in the promises 41 to 44, 46, 48 and 49.
 */
public final class EdgeMakingTest {
    private static final Check CHECK = new Check("EdgeMakingTest");
    private static final Class<ArithmeticException> ARITHMETIC = ArithmeticException.class;
    private static final Class<IndexOutOfBoundsException> INDEX = IndexOutOfBoundsException.class;
    private static final Class<IllegalArgumentException> ILLEGAL = IllegalArgumentException.class;
    private static final Class<IllegalStateException> STATE = IllegalStateException.class;
    private static final Class<NoSuchElementException> MISSING = NoSuchElementException.class;
    private static final Class<UnsupportedOperationException> UNSUPPORTED = UnsupportedOperationException.class;
    private static final int LEAST = Integer.MIN_VALUE;
    private static final int MOST = Integer.MAX_VALUE;

    public static void main(String[] args) {
        wishRanges();
        wishNeedsASpread();
        wishOrderOfExceptions();
        lowestCrease();
        roomForIt();
        partOfTheCrease();
        creaseThatIsThere();
        goodThen();
        byTwo();
        multiplesOf10();
        firstCreaseOrElseSecond();
        lastCreaseByTwo();
        noSuchFolds();
        oneMore();
        twoMore();
        restoreNeedsACrease();
        restoreLengths();
        restorePart();
        restoreMost();
        years();
        badBook();
        smallParts();
        longArms();
        firstThatHolds();
        tornOnesCount();
        numberOfFolds();
        scenes();
        means();
        sound();
        CHECK.end();
    }

    private static void wishRanges() {
        CHECK.says("wish: i: 1 to 400; j: 1 to 400; Throws IllegalArgumentException if a number is out of range");
        CHECK.same("the least", great().wish(1, 1, 0, 400), 1);
        CHECK.same("the greatest i that shuts", great().wish(399, 1, 0, 400), 1);
        CHECK.same("the greatest j that shuts", great().wish(1, 399, 0, 400), 1);
        CHECK.refused("i 400 is no wrong number, but does not shut", MISSING, EdgeMakingTest::great,
                w -> w.wish(400, 1, 0, 400));
        CHECK.refused("j 400 likewise", MISSING, EdgeMakingTest::great, w -> w.wish(1, 400, 0, 400));
        for (int wrong : new int[] {0, 401, -1, LEAST, MOST}) {
            CHECK.refused("i " + wrong, ILLEGAL, Books::rich, w -> w.wish(wrong, 20, 0, 80));
            CHECK.refused("j " + wrong, ILLEGAL, Books::rich, w -> w.wish(20, wrong, 0, 80));
        }
    }

    private static Popupwright great() {
        Popupwright w = Books.none();
        w.spread(400, 400);
        return w;
    }

    private static void wishNeedsASpread() {
        CHECK.says("wish: Throws UnsupportedOperationException if there is no spread, or no such part of y");
        CHECK.refused("no spread", UNSUPPORTED, Books::none, w -> w.wish(1, 1, 0, 1));
        CHECK.same("all of y", Books.empty().wish(1, 1, 0, 80), 1);
        CHECK.same("the lowest line", Books.empty().wish(1, 1, 0, 1), 1);
        CHECK.same("the highest line", Books.empty().wish(1, 1, 79, 80), 1);
        int[][] wrong = {{-1, 80}, {0, 81}, {30, 30}, {31, 30}, {0, 0}, {80, 80}, {80, 81}, {LEAST, 80}, {0, MOST},
            {MOST, LEAST}};
        for (int[] y : wrong) {
            CHECK.refused(y[0] + " to " + y[1], UNSUPPORTED, Books::rich, w -> w.wish(20, 20, y[0], y[1]));
        }
    }

    private static void wishOrderOfExceptions() {
        CHECK.says("If several exceptions apply, the one that is listed first is thrown: wish");
        CHECK.refused("no number, no spread", ILLEGAL, Books::none, w -> w.wish(0, 1, 0, 1));
        CHECK.refused("no number, no part of y", ILLEGAL, Books::rich, w -> w.wish(20, 401, 5, 5));
        CHECK.refused("no part of y, full", UNSUPPORTED, Books::full, w -> w.wish(1, 1, 5, 5));
        CHECK.refused("no part of y, no such folds", UNSUPPORTED, Books::empty, w -> w.wish(400, 400, 0, 81));
    }

    private static void rooms(Popupwright w, int crease, int left, int right) {
        CHECK.same("left room of " + crease, w.room(crease, true), left);
        CHECK.same("right room of " + crease, w.room(crease, false), right);
    }

    private static void lowestCrease() {
        CHECK.says("is made by one fold, in the lowest crease that is there and has room for it");
        Popupwright around = Books.one();
        CHECK.same("around the other one", around.wish(41, 31, 10, 70), 1);
        rooms(around, 3, 59, 31);
        rooms(around, 4, 41, 69);
        Popupwright first = Books.one();
        CHECK.same("the gutter clashes, crease 1 goes", first.wish(41, 30, 10, 70), 1);
        rooms(first, 3, 59, 30);
        rooms(first, 4, 1, 0);
        Popupwright second = Books.one();
        CHECK.same("neither of these goes, crease 2 does", second.wish(40, 31, 10, 70), 1);
        rooms(second, 3, 0, 1);
        rooms(second, 4, 40, 69);
        Popupwright last = Books.three();
        CHECK.same("the last crease alone goes", last.wish(9, 81, 20, 60), 1);
        rooms(last, 7, 1, 1);
        rooms(last, 8, 9, 19);
    }

    private static void roomForIt() {
        CHECK.says("that is there and has room for it");
        Popupwright w = Books.three();
        CHECK.same("as long as both rooms of crease 4", w.wish(60, 30, 10, 40), 1);
        rooms(w, 7, 0, 15);
        rooms(w, 8, 20, 0);
        CHECK.refused("a ridge above a crease, at its corner", MISSING, Books::one, b -> b.wish(40, 30, 10, 70));
        Popupwright low = Books.one();
        CHECK.same("a length of 1 from the corner", low.wish(41, 1, 10, 70), 1);
        rooms(low, 3, 59, 1);
    }

    private static void partOfTheCrease() {
        CHECK.says("over a part of y: a crease has a part of the gutter");
        CHECK.same("within that of crease 1", Books.one().wish(50, 20, 10, 70), 1);
        CHECK.refused("1 below it", MISSING, Books::one, w -> w.wish(50, 20, 9, 70));
        CHECK.refused("1 above it", MISSING, Books::one, w -> w.wish(50, 20, 10, 71));
        Popupwright w = Books.one();
        CHECK.same("beside the fold, the gutter goes", w.wish(50, 20, 70, 80), 1);
        rooms(w, 3, 50, 20);
        rooms(w, 4, 50, 80);
    }

    /** A ridge that only two folds make, behind the arms of another fold. */
    private static Popupwright withArms() {
        Popupwright w = Books.empty();
        w.fold(0, 30, 40, 0, 80);
        w.arm(0, true, 5, 0, 80);
        w.arm(0, false, 5, 0, 80);
        return w;
    }

    private static void creaseThatIsThere() {
        CHECK.says("the lowest crease that is there");
        Popupwright w = Books.empty();
        w.fold(0, 10, 10, 0, 80);
        w.fold(0, 50, 50, 0, 80);
        w.fold(0, 50, 50, 0, 80);
        w.spread(100, 80);
        w.fold(0, 30, 40, 0, 80);
        w.arm(0, true, 5, 0, 80);
        w.arm(0, false, 5, 0, 80);
        CHECK.same("the crease 3 of another book would do it by one", w.wish(60, 40, 0, 80), 2);
        rooms(w, 3, 60, 50);
        rooms(w, 5, 40, 40);
        Popupwright again = withArms();
        CHECK.fails("a wish that fails", MISSING, () -> again.wish(30, 40, 0, 80));
        CHECK.same("leaves no crease for the next one", again.wish(60, 40, 0, 80), 2);
        rooms(again, 3, 60, 50);
    }

    private static void goodThen() {
        CHECK.says("so that the book is good");
        CHECK.same("a ridge at the width", Books.empty().wish(60, 40, 0, 80), 1);
        CHECK.refused("a ridge beyond", MISSING, Books::empty, w -> w.wish(60, 41, 0, 80));
        CHECK.refused("a ridge beyond both rooms", MISSING, Books::empty, w -> w.wish(101, 101, 0, 80));
        CHECK.refused("a book that does not shut", MISSING, () -> arm(31), w -> w.wish(10, 10, 0, 80));
        CHECK.same("one that just shuts", arm(30).wish(10, 10, 0, 80), 1);
        CHECK.refused("a book that clashes", MISSING, EdgeMakingTest::clashing, w -> w.wish(10, 10, 0, 80));
        Popupwright torn = clashing();
        torn.open(18, 9999);
        CHECK.same("torn, it does not clash", torn.wish(10, 10, 0, 80), 1);
    }

    private static Popupwright arm(int length) {
        Popupwright w = Books.one();
        w.arm(0, true, length, 10, 70);
        return w;
    }

    private static Popupwright clashing() {
        Popupwright w = Books.one();
        w.fold(0, 41, 10, 69, 80);
        return w;
    }

    private static void byTwo() {
        CHECK.says("if there is no such one, by two of this part of y. Returns how many folds were made.");
        Popupwright w = withArms();
        CHECK.same("two", w.wish(60, 40, 10, 30), 2);
        CHECK.same("folds", w.folds(), 3);
        CHECK.yes("good", w.isGood());
        CHECK.same("the second one waits for the first one", w.waiting(1), 1);
        for (int crease = 3; crease <= 6; crease++) {
            int n = crease;
            CHECK.refused("its part of y, below", ILLEGAL, () -> wished(), b -> b.fold(n, 1, 1, 9, 30));
            CHECK.refused("its part of y, above", ILLEGAL, () -> wished(), b -> b.fold(n, 1, 1, 10, 31));
            CHECK.same("all of it", wished().fold(n, 1, 1, 10, 30), 3);
        }
        CHECK.same("one is made by one", withArms().wish(29, 39, 10, 30), 1);
    }

    private static Popupwright wished() {
        Popupwright w = withArms();
        w.wish(60, 40, 10, 30);
        return w;
    }

    private static void multiplesOf10() {
        CHECK.says("with lengths that are multiples of 10, the least a, then the least b");
        Popupwright w = withArms();
        w.wish(60, 40, 0, 80);
        // 40 is the least a beyond the second arm's end at 35, 50 the least b beyond the first arm's end at 45.
        rooms(w, 3, 60, 50);
        rooms(w, 4, 40, 50);
        rooms(w, 5, 40, 40);
        rooms(w, 6, 20, 10);
        CHECK.says("multiples of 10, as long as a room");
        Popupwright left = Books.empty();
        left.fold(0, 4, 10, 0, 80);
        left.arm(0, false, 6, 0, 80);
        left.fold(0, 10, 5, 0, 80);
        left.open(18, 9999);
        left.mend(0);
        CHECK.same("a of 10 in a left room of 10", left.wish(7, 20, 0, 80), 2);
        rooms(left, 5, 0, 10);
        rooms(left, 6, 10, 85);
        Popupwright right = Books.empty();
        right.fold(0, 10, 4, 0, 80);
        right.arm(0, true, 6, 0, 80);
        right.fold(0, 5, 10, 0, 80);
        right.open(18, 9999);
        right.mend(0);
        CHECK.same("b of 10 in a right room of 10", right.wish(20, 7, 0, 80), 2);
        rooms(right, 5, 85, 10);
        rooms(right, 6, 10, 0);
    }

    private static void firstCreaseOrElseSecond() {
        CHECK.says("the second one in its first crease, or else in its second one");
        Popupwright first = withArms();
        CHECK.same("two", first.wish(60, 40, 0, 80), 2);
        CHECK.same("in its first crease: right room of 50", first.room(6, false), 10);
        CHECK.same("left room of 60", first.room(5, true), 40);
        Popupwright second = withArms();
        CHECK.same("two", second.wish(30, 60, 0, 80), 2);
        CHECK.same("in its second crease: right room of 50", second.room(6, false), 40);
        CHECK.same("left room of 40", second.room(5, true), 10);
    }

    private static void lastCreaseByTwo() {
        CHECK.says("the first one in the lowest crease that goes: the last one");
        Popupwright w = Books.empty();
        w.fold(0, 1, 1, 40, 80);
        w.fold(0, 2, 2, 40, 80);
        w.fold(0, 4, 10, 0, 40);
        w.arm(2, false, 6, 0, 40);
        w.fold(0, 12, 5, 0, 40);
        w.open(18, 9999);
        w.mend(2);
        CHECK.same("two, in the second crease of a torn fold", w.wish(7, 20, 0, 40), 2);
        rooms(w, 9, 2, 10);
        rooms(w, 10, 10, 85);
        rooms(w, 11, 3, 5);
        rooms(w, 12, 7, 80);
    }

    private static void noSuchFolds() {
        CHECK.says("wish: Throws NoSuchElementException if there are no such folds");
        CHECK.refused("a ridge where one is", MISSING, Books::rich, w -> w.wish(40, 30, 10, 70));
        CHECK.refused("a ridge on a panel", MISSING, Books::rich, w -> w.wish(40, 20, 10, 70));
        CHECK.refused("behind arms", MISSING, EdgeMakingTest::withArms, w -> w.wish(30, 40, 0, 80));
        CHECK.refused("of a full book", MISSING, Books::full, w -> w.wish(1, 1, 300, 400));
        CHECK.refused("by none, with torn ones", MISSING, Books::torn, w -> w.wish(99, 99, 0, 80));
    }

    /** As many folds as told, the first one with arms, and one more can be made only over 70 to 80. */
    private static Popupwright many(int folds) {
        Popupwright w = withArms();
        for (int n = 1; n < folds; n++) {
            w.fold(0, 1, 1, 3 * n, 3 * n + 1);
        }
        return w;
    }

    private static void oneMore() {
        CHECK.says("or there would be more than 24: by one");
        Popupwright w = many(23);
        CHECK.same("the last one", w.wish(2, 2, 70, 80), 1);
        CHECK.same("folds", w.folds(), 24);
        CHECK.refused("one more", MISSING, () -> many(24), b -> b.wish(2, 2, 72, 80));
        CHECK.same("there would be room for it", many(23).wish(2, 2, 72, 80), 1);
    }

    private static void twoMore() {
        CHECK.says("or there would be more than 24: by two");
        Popupwright w = many(22);
        CHECK.same("the last two", w.wish(60, 40, 72, 80), 2);
        CHECK.same("folds", w.folds(), 24);
        CHECK.refused("two that are not good", MISSING, () -> many(22), b -> b.wish(30, 40, 72, 80));
        CHECK.refused("two where one has room", MISSING, () -> many(23), b -> b.wish(60, 40, 72, 80));
        CHECK.refused("two where none has room", MISSING, () -> many(24), b -> b.wish(60, 40, 72, 80));
    }

    private static void restoreNeedsACrease() {
        CHECK.says("restore: Throws IndexOutOfBoundsException if there is no such crease");
        CHECK.same("the last one", Books.rich().restore(6, 2, 1, true, 20, 30), 3);
        for (int crease : new int[] {-1, 7, 48, 49, LEAST, MOST}) {
            CHECK.refused("crease " + crease, INDEX, Books::rich, w -> w.restore(crease, 2, 1, true, 20, 30));
            CHECK.refused("crease " + crease + ", no length", INDEX, Books::rich,
                    w -> w.restore(crease, 0, 0, false, 30, 30));
        }
        CHECK.refused("without a spread", INDEX, Books::none, w -> w.restore(0, 2, 1, true, 0, 1));
        CHECK.refused("49 of a full book", INDEX, Books::full, w -> w.restore(49, 2, 1, true, 0, 1));
    }

    private static void restoreLengths() {
        CHECK.says("its a and b together, and one .. to the left or to the right; longer than a room, not at least 1");
        Popupwright w = Books.one();
        CHECK.same("the least, by its a", w.restore(1, 2, 1, true, 10, 20), 1);
        rooms(w, 3, 59, 1);
        CHECK.same("the most, by its a", w.restore(1, 90, 60, true, 30, 40), 2);
        rooms(w, 5, 0, 30);
        CHECK.same("the most, by its b", w.restore(1, 90, 30, false, 50, 60), 3);
        rooms(w, 7, 0, 30);
        CHECK.same("the least, by its b", w.restore(1, 2, 1, false, 60, 70), 4);
        int[][] byA = {{2, 2}, {2, 0}, {5, 6}, {0, 0}, {5, -1}, {62, 61}, {32, 1}, {91, 60}, {91, 61}, {LEAST, 1},
            {LEAST, MOST}, {MOST, LEAST}, {MOST, 1}, {LEAST, LEAST}, {MOST, MOST}, {-2, -1}, {LEAST + 30, MOST}};
        for (int[] n : byA) {
            CHECK.refused(n[0] + " by a " + n[1], ILLEGAL, Books::rich, b -> b.restore(1, n[0], n[1], true, 10, 20));
        }
        int[][] byB = {{2, 2}, {2, 0}, {5, 6}, {0, 0}, {5, -1}, {32, 31}, {62, 1}, {91, 30}, {91, 31}, {LEAST, 1},
            {LEAST, MOST}, {MOST, LEAST}, {MOST, 1}, {LEAST, LEAST}, {MOST, MOST}, {-2, -1}, {LEAST + 30, MOST}};
        for (int[] n : byB) {
            CHECK.refused(n[0] + " by b " + n[1], ILLEGAL, Books::rich, b -> b.restore(1, n[0], n[1], false, 10, 20));
        }
    }

    private static void restorePart() {
        CHECK.says("restore: or not in the part of y");
        CHECK.same("all of it", Books.one().restore(1, 2, 1, true, 10, 70), 1);
        CHECK.same("the lowest line", Books.one().restore(1, 2, 1, true, 10, 11), 1);
        CHECK.same("the highest line", Books.one().restore(1, 2, 1, true, 69, 70), 1);
        int[][] wrong = {{9, 70}, {10, 71}, {30, 30}, {31, 30}, {10, 10}, {70, 70}, {LEAST, 70}, {10, MOST}};
        for (int[] y : wrong) {
            CHECK.refused(y[0] + " to " + y[1], ILLEGAL, Books::rich, w -> w.restore(1, 2, 1, true, y[0], y[1]));
        }
    }

    private static void restoreMost() {
        CHECK.says("restore: Throws IllegalStateException if there are 24");
        CHECK.same("the 24th", many(23).restore(0, 2, 1, true, 79, 80), 23);
        CHECK.refused("the 25th", STATE, Books::full, w -> w.restore(0, 2, 1, true, 0, 10));
        CHECK.refused("the 25th, no length", ILLEGAL, Books::full, w -> w.restore(0, 2, 2, true, 0, 10));
        CHECK.refused("the 25th, no part of y", ILLEGAL, Books::full, w -> w.restore(0, 2, 1, true, 5, 5));
        CHECK.refused("the 25th, no crease", INDEX, Books::full, w -> w.restore(49, 2, 2, true, 0, 10));
    }

    private static void child(String what, Popupwright w, int years, char due) {
        CHECK.same(what + ", " + years + " years", w.forChild(years), due);
    }

    private static void years() {
        CHECK.says("forChild: years: 0 to 99");
        child("the youngest", Books.rich(), 0, 'y');
        child("the oldest", Books.rich(), 99, 'y');
        for (int years : new int[] {-1, 100, LEAST, MOST}) {
            CHECK.refused("years " + years, ILLEGAL, Books::rich, w -> w.forChild(years));
            CHECK.refused("years " + years + ", no spread", ILLEGAL, Books::none, w -> w.forChild(years));
        }
        CHECK.says("forChild: Throws UnsupportedOperationException if there is no spread");
        CHECK.refused("no spread", UNSUPPORTED, Books::none, w -> w.forChild(0));
        CHECK.refused("no spread", UNSUPPORTED, Books::none, w -> w.forChild(99));
        child("an empty book", Books.empty(), 0, 'y');
    }

    private static void badBook() {
        CHECK.says("A child of some years may have a good book; 'g' it is not good");
        child("it clashes", clashing(), 99, 'g');
        child("it clashes", clashing(), 0, 'g');
        child("it does not shut", arm(31), 99, 'g');
        child("it just shuts", arm(30), 0, 'y');
    }

    private static Popupwright net(int width, int length) {
        Popupwright w = Books.empty();
        w.fold(0, length - 21, 1, 0, width);
        return w;
    }

    private static void smallParts() {
        CHECK.says("for those under 3, no net of a fold is less than 32 both in width and in length");
        child("less in both", net(31, 31), 2, 'p');
        child("less in both", net(31, 31), 3, 'y');
        child("less in length", net(32, 31), 2, 'y');
        child("less in width", net(31, 32), 2, 'y');
        child("the least", net(1, 22), 0, 'p');
        child("the least", net(1, 22), 2, 'p');
        child("the least", net(1, 22), 3, 'y');
        Popupwright w = net(31, 31);
        w.arm(0, false, 1, 0, 31);
        child("by an arm it is not less in length", w, 2, 'y');
        Popupwright last = Books.full();
        child("one of many", last, 3, 'y');
        Popupwright two = net(31, 32);
        two.fold(0, 9, 2, 40, 71);
        child("the last one", two, 2, 'p');
    }

    private static Popupwright armed(boolean isFirst, int length, int high) {
        Popupwright w = Books.empty();
        w.fold(0, 20, 20, 0, 40);
        w.arm(0, isFirst, length, 10, high);
        return w;
    }

    private static void longArms() {
        CHECK.says("for those under 6, no arm is longer than 3 times its part of y");
        for (int n = 0; n < 2; n++) {
            boolean isFirst = n == 0;
            child("3 times", armed(isFirst, 30, 20), 0, 'y');
            child("3 times and 1", armed(isFirst, 31, 20), 0, 'a');
            child("3 times and 1", armed(isFirst, 31, 20), 5, 'a');
            child("3 times and 1", armed(isFirst, 31, 20), 6, 'y');
            child("the least part", armed(isFirst, 3, 11), 5, 'y');
            child("the least part", armed(isFirst, 4, 11), 5, 'a');
            child("its own part of y, not the fold's", armed(isFirst, 31, 21), 5, 'y');
        }
        Popupwright both = armed(true, 30, 20);
        both.arm(0, false, 31, 10, 20);
        child("the other one", both, 5, 'a');
    }

    private static void firstThatHolds() {
        CHECK.says("'g' .., 'p' .., 'a' .., 'y' .., the first one that holds");
        Popupwright w = Books.empty();
        w.fold(0, 5, 5, 0, 20);
        w.arm(0, true, 4, 0, 1);
        // The arm makes the net longer: another fold has the small one.
        w.fold(0, 5, 5, 20, 40);
        child("a part and an arm", w, 2, 'p');
        child("a part and an arm", w, 3, 'a');
        child("a part and an arm", w, 5, 'a');
        child("a part and an arm", w, 6, 'y');
        w.fold(0, 100, 1, 0, 80);
        child("nor is it good", w, 2, 'g');
        child("nor is it good", w, 6, 'g');
    }

    private static void tornOnesCount() {
        CHECK.says("torn folds count, too");
        Popupwright part = net(31, 31);
        part.open(18, 9999);
        child("a torn part", part, 2, 'p');
        child("a torn part", part, 3, 'y');
        Popupwright arm = armed(true, 31, 20);
        arm.open(18, 9999);
        child("a torn arm", arm, 5, 'a');
        child("a torn arm", arm, 6, 'y');
    }

    private static void numberOfFolds() {
        CHECK.says("folds: Returns the number of folds.");
        CHECK.same("no spread", Books.none().folds(), 0);
        CHECK.same("an empty book", Books.empty().folds(), 0);
        CHECK.same("torn ones are folds", Books.torn().folds(), 3);
        CHECK.same("a full book", Books.full().folds(), 24);
    }

    private static void scenes() {
        CHECK.says("scene: step: the step, 0 to 18; over all strips, of the number plus 1 times ..");
        CHECK.same("no spread", Books.none().scene(0), 0);
        CHECK.same("an empty book", Books.empty().scene(18), 0);
        CHECK.same("shut", Books.one().scene(0), (1 + 2) * 65 * 70);
        CHECK.same("flat", Books.one().scene(18), (1 + 2) * 65 * 10);
        for (int step : new int[] {-1, 19, LEAST, MOST}) {
            CHECK.refused("step " + step, ILLEGAL, Books::rich, w -> w.scene(step));
            CHECK.refused("step " + step + ", no spread", ILLEGAL, Books::none, w -> w.scene(step));
        }
        Popupwright w = Books.none();
        w.spread(400, 400);
        for (int n = 0; n < 24; n++) {
            w.fold(0, 400, 400, 0, 400);
            w.arm(n, true, 400, 0, 400);
            w.arm(n, false, 400, 0, 400);
        }
        long all = 0;
        for (int n = 0; n < 96; n++) {
            all += (n + 1) * 65L * (n % 4 < 2 ? 800 : 1200);
        }
        CHECK.same("the most", w.scene(0), all);
        Popupwright torn = Books.one();
        torn.open(18, 9999);
        CHECK.same("strips of torn folds are none", torn.scene(0), 0);
        CHECK.same("the strips keep their numbers", secondOnly().scene(9), (5 + 6) * 65L * (50 + 40));
    }

    /** The fold 0 is torn, the fold 1 was mended. */
    private static Popupwright secondOnly() {
        Popupwright w = Books.one();
        w.fold(0, 50, 40, 10, 70);
        w.open(18, 9999);
        w.mend(1);
        return w;
    }

    private static void means() {
        CHECK.says("meanLength: Throws ArithmeticException if there are none; both converted to double");
        CHECK.refused("no spread", ARITHMETIC, Books::none, w -> w.meanLength());
        CHECK.refused("no fold", ARITHMETIC, Books::empty, w -> w.meanLength());
        CHECK.refused("all torn", ARITHMETIC, EdgeMakingTest::allTorn, w -> w.meanLength());
        CHECK.near("one fold", Books.one().meanLength(), 35);
        Popupwright w = Books.one();
        w.arm(0, true, 1, 10, 70);
        CHECK.near("a third", w.meanLength(), 71.0 / 3.0);
        CHECK.near("strips that are there alone", secondOnly().meanLength(), 45);
    }

    private static Popupwright allTorn() {
        Popupwright w = Books.rich();
        w.open(18, 9999);
        return w;
    }

    private static void sound() {
        CHECK.says("isSound: Returns whether this holds.");
        CHECK.yes("no spread", Books.none().isSound());
        CHECK.yes("an empty book", Books.empty().isSound());
        CHECK.yes("some of everything", Books.rich().isSound());
        CHECK.yes("with a torn fold", Books.torn().isSound());
        CHECK.yes("all torn", allTorn().isSound());
        CHECK.yes("full", Books.full().isSound());
        CHECK.yes("clashing", clashing().isSound());
        CHECK.yes("strips of 60 and 61", sixty().isSound());
        Popupwright touching = arm(5);
        touching.arm(0, false, 5, 10, 70);
        touching.fold(0, 60, 30, 10, 70);
        touching.fold(0, 40, 60, 10, 70);
        CHECK.yes("arms that begin on panels", touching.isSound());
    }

    /** More strips than are looked at, some as long as is looked at, some longer, and all of them clashing. */
    private static Popupwright sixty() {
        Popupwright w = Books.empty();
        for (int n = 0; n < 8; n++) {
            w.fold(0, 60 + n % 2, 61 - n % 2, 0, 80);
            w.arm(n, n % 2 == 0, 60, 0, 80);
        }
        return w;
    }
}
