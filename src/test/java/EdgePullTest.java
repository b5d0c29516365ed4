/**
 * Each boundary that the document names for pulls, and in the promises 21 to 24.
 */
public final class EdgePullTest {
    private static final Check CHECK = new Check("EdgePullTest");
    private static final Class<IndexOutOfBoundsException> INDEX = IndexOutOfBoundsException.class;
    private static final Class<IllegalArgumentException> ILLEGAL = IllegalArgumentException.class;
    private static final Class<IllegalStateException> STATE = IllegalStateException.class;
    private static final Class<UnsupportedOperationException> UNSUPPORTED = UnsupportedOperationException.class;
    private static final int LEAST = Integer.MIN_VALUE;
    private static final int MOST = Integer.MAX_VALUE;

    public static void main(String[] args) {
        pullNeedsAStrip();
        slots();
        frictions();
        mostPulls();
        pullOrderOfExceptions();
        standsAtItsBeginning();
        joinNeedsPulls();
        joinRefused();
        joinRings();
        joinCounts();
        moveNeedsAPull();
        ways();
        forces();
        moveOrderOfExceptions();
        stops();
        followersStop();
        force();
        forceAtStops();
        mostForce();
        placeRefused();
        CHECK.end();
    }

    private static void pullNeedsAStrip() {
        CHECK.says("pull: Throws IndexOutOfBoundsException if there is no such strip");
        for (int strip : new int[] {-1, -2, 3, 6, 12, 96, LEAST, MOST}) {
            CHECK.refused("strip " + strip, INDEX, Books::rich, w -> w.pull(strip, 0, 1, 1));
        }
        CHECK.refused("without a spread", INDEX, Books::none, w -> w.pull(0, 0, 1, 1));
        CHECK.refused("of an empty book", INDEX, Books::empty, w -> w.pull(0, 0, 1, 1));
        CHECK.refused("of a torn fold", INDEX, Books::torn, w -> w.pull(0, 0, 1, 1));
        CHECK.same("the last strip", Books.rich().pull(11, 0, 5, 1), 3);
    }

    private static void slots() {
        CHECK.says("from: the place of its length where it begins; to: where it ends, greater");
        CHECK.same("all of it", Books.one().pull(0, 0, 30, 1), 0);
        CHECK.same("the first place", Books.one().pull(0, 0, 1, 1), 0);
        CHECK.same("the last place", Books.one().pull(0, 29, 30, 1), 0);
        int[][] wrong = {{-1, 30}, {0, 31}, {7, 7}, {8, 7}, {0, 0}, {30, 30}, {30, 31}, {LEAST, 5}, {5, MOST},
            {MOST, LEAST}};
        for (int[] p : wrong) {
            CHECK.refused(p[0] + " to " + p[1], ILLEGAL, Books::rich, w -> w.pull(0, p[0], p[1], 1));
        }
    }

    private static void frictions() {
        CHECK.says("friction: 0 to 99");
        Popupwright least = Books.one();
        least.pull(0, 0, 30, 0);
        CHECK.same("0: without force", least.move(0, 5, 0), 5);
        Popupwright most = Books.one();
        most.pull(0, 0, 30, 99);
        CHECK.same("99: with less", most.move(0, 5, 98), 0);
        CHECK.same("99: with as much", most.move(0, 5, 99), 5);
        for (int friction : new int[] {-1, 100, LEAST, MOST}) {
            CHECK.refused("friction " + friction, ILLEGAL, Books::rich, w -> w.pull(0, 0, 30, friction));
        }
    }

    private static void mostPulls() {
        CHECK.says("pull: Throws IllegalStateException if there are 10");
        Popupwright w = Books.one();
        for (int n = 0; n < 10; n++) {
            CHECK.same("a pull", w.pull(n % 2, n, 30, 1), n);
        }
        CHECK.same("the last one is there", w.pullAt(9), 9);
        CHECK.fails("one more", STATE, () -> w.pull(0, 0, 30, 1));
        CHECK.fails("it is not there", INDEX, () -> w.pullAt(10));
        CHECK.refused("the 11th", STATE, Books::full, b -> b.pull(0, 0, 20, 1));
        w.spread(100, 80);
        w.fold(0, 40, 30, 10, 70);
        CHECK.same("in the next book", w.pull(0, 0, 30, 1), 0);
    }

    private static void pullOrderOfExceptions() {
        CHECK.says("If several exceptions apply, the one that is listed first is thrown: pull");
        CHECK.refused("no strip, no slot, full", INDEX, Books::full, w -> w.pull(96, 5, 5, 100));
        CHECK.refused("no slot, full", ILLEGAL, Books::full, w -> w.pull(0, 0, 21, 1));
        CHECK.refused("no friction, full", ILLEGAL, Books::full, w -> w.pull(0, 0, 20, 100));
        CHECK.refused("no strip, no friction", INDEX, Books::rich, w -> w.pull(3, 0, 1, -1));
    }

    private static void standsAtItsBeginning() {
        CHECK.says("in it a pull, which stands at its beginning first");
        Popupwright w = Books.one();
        w.pull(0, 0, 30, 1);
        w.pull(1, 39, 40, 1);
        w.pull(1, 7, 12, 1);
        CHECK.same("at 0", w.pullAt(0), 0);
        CHECK.same("at 39", w.pullAt(1), 39);
        CHECK.same("at 7", w.pullAt(2), 7);
        CHECK.same("it does not go back from there", w.move(2, -1, 999), 0);
    }

    private static void joinNeedsPulls() {
        CHECK.says("join: Throws IndexOutOfBoundsException if there is no such pull, for either");
        for (int pull : new int[] {-1, 3, 9, 10, LEAST, MOST}) {
            CHECK.refused("pull " + pull, INDEX, Books::rich, w -> w.join(pull, 0));
            CHECK.refused("follower " + pull, INDEX, Books::rich, w -> w.join(0, pull));
            CHECK.refused("both " + pull, INDEX, Books::rich, w -> w.join(pull, pull));
            CHECK.refused("a follower of one that has one", INDEX, Books::rich, w -> w.join(1, pull));
            CHECK.refused("one that would be followed by a follower", INDEX, Books::rich, w -> w.join(pull, 2));
        }
        CHECK.refused("without a spread", INDEX, Books::none, w -> w.join(0, 0));
        CHECK.refused("10 of a full book", INDEX, Books::full, w -> w.join(9, 10));
    }

    private static void joinRefused() {
        CHECK.says("join: Throws UnsupportedOperationException if it has a follower, the other one follows one");
        CHECK.refused("it has a follower", UNSUPPORTED, Books::rich, w -> w.join(1, 0));
        CHECK.refused("the same follower once more", UNSUPPORTED, Books::rich, w -> w.join(1, 2));
        CHECK.refused("the other one follows one", UNSUPPORTED, Books::rich, w -> w.join(0, 2));
        CHECK.same("a follower may have one", Books.rich().join(2, 0), 1);
        CHECK.same("one that has a follower may follow one", Books.rich().join(0, 1), 2);
    }

    private static void joinRings() {
        CHECK.says("or it would follow itself");
        CHECK.refused("itself", UNSUPPORTED, Books::rich, w -> w.join(0, 0));
        CHECK.refused("a ring of two", UNSUPPORTED, Books::rich, w -> w.join(2, 1));
        CHECK.refused("a ring of ten", UNSUPPORTED, Books::full, w -> w.join(9, 0));
        CHECK.refused("itself, the last one of a row", UNSUPPORTED, Books::full, w -> w.join(9, 9));
        Popupwright w = Books.rich();
        w.join(0, 1);
        CHECK.fails("a ring of three", UNSUPPORTED, () -> w.join(2, 0));
    }

    private static void joinCounts() {
        CHECK.says("Returns how many follow it then, straight or by others.");
        Popupwright w = Books.one();
        for (int n = 0; n < 10; n++) {
            w.pull(0, 0, 30, 1);
        }
        CHECK.same("one", w.join(0, 1), 1);
        CHECK.same("one, behind another one", w.join(1, 2), 1);
        CHECK.same("three, by others", w.join(3, 0), 3);
        for (int n = 4; n < 9; n++) {
            w.join(n, n - 1);
        }
        CHECK.same("all others", w.join(9, 8), 9);
    }

    private static void moveNeedsAPull() {
        CHECK.says("move: Throws IndexOutOfBoundsException if there is no such pull");
        for (int pull : new int[] {-1, 3, 9, 10, LEAST, MOST}) {
            CHECK.refused("pull " + pull, INDEX, Books::rich, w -> w.move(pull, 1, 999));
        }
        CHECK.refused("without a spread", INDEX, Books::none, w -> w.move(0, 1, 1));
        CHECK.refused("10 of a full book", INDEX, Books::full, w -> w.move(10, 1, 999));
        CHECK.same("the last one of a full book", Books.full().move(9, 1, 9), 1);
    }

    private static Popupwright slot() {
        Popupwright w = new Popupwright();
        w.spread(400, 20);
        w.fold(0, 400, 400, 0, 20);
        w.pull(0, 0, 400, 5);
        return w;
    }

    private static void ways() {
        CHECK.says("move: Throws IllegalArgumentException if it is 0, beyond -400 to 400");
        Popupwright w = slot();
        CHECK.same("400", w.move(0, 400, 5), 400);
        CHECK.same("it stands there", w.pullAt(0), 400);
        CHECK.same("-400", w.move(0, -400, 5), -400);
        CHECK.same("it stands there", w.pullAt(0), 0);
        CHECK.same("1", w.move(0, 1, 5), 1);
        CHECK.same("-1", w.move(0, -1, 5), -1);
        for (int by : new int[] {0, 401, -401, LEAST, MOST}) {
            CHECK.refused("by " + by, ILLEGAL, Books::rich, b -> b.move(0, by, 999));
            CHECK.refused("by " + by + " without force", ILLEGAL, Books::rich, b -> b.move(0, by, 0));
        }
    }

    private static void forces() {
        CHECK.says("force: 0 to 999");
        CHECK.same("0", slot().move(0, 3, 0), 0);
        CHECK.same("999", slot().move(0, 3, 999), 3);
        for (int force : new int[] {-1, 1000, LEAST, MOST}) {
            CHECK.refused("force " + force, ILLEGAL, Books::rich, w -> w.move(0, 1, force));
        }
    }

    private static void moveOrderOfExceptions() {
        CHECK.says("If several exceptions apply, the one that is listed first is thrown: move");
        CHECK.refused("no pull, no way", INDEX, Books::rich, w -> w.move(3, 0, 5));
        CHECK.refused("no pull, no force", INDEX, Books::rich, w -> w.move(-1, 1, 1000));
    }

    private static void stops() {
        CHECK.says("each as far as its slot lets it");
        Popupwright w = Books.one();
        w.pull(0, 10, 20, 5);
        CHECK.same("not back from its beginning", w.move(0, -1, 999), 0);
        CHECK.same("up to its end", w.move(0, 10, 5), 10);
        CHECK.same("it stands there", w.pullAt(0), 20);
        CHECK.same("no further", w.move(0, 1, 999), 0);
        CHECK.same("it stands there", w.pullAt(0), 20);
        CHECK.same("back by 9", w.move(0, -9, 5), -9);
        CHECK.same("back by 1 of 9", w.move(0, -9, 5), -1);
        CHECK.same("it stands at its beginning", w.pullAt(0), 10);
        CHECK.same("on by 10 of 11", w.move(0, 11, 5), 10);
    }

    /** Three pulls in a row: slots of 20, 4 and 20, frictions of 5, 7 and 9. */
    private static Popupwright row() {
        Popupwright w = Books.one();
        w.pull(0, 0, 20, 5);
        w.pull(1, 3, 7, 7);
        w.pull(1, 10, 30, 9);
        w.join(0, 1);
        w.join(1, 2);
        return w;
    }

    private static void at(Popupwright w, int first, int second, int third) {
        CHECK.same("the first one", w.pullAt(0), first);
        CHECK.same("the second one", w.pullAt(1), second);
        CHECK.same("the third one", w.pullAt(2), third);
    }

    private static void followersStop() {
        CHECK.says("takes its follower along by as much as it went itself; a follower that stops does not stop the one");
        Popupwright w = row();
        CHECK.same("up to the stop of the second one", w.move(0, 4, 999), 4);
        at(w, 4, 7, 14);
        CHECK.same("the second one stops", w.move(0, 1, 999), 1);
        at(w, 5, 7, 14);
        CHECK.same("back, all of them", w.move(0, -2, 999), -2);
        at(w, 3, 5, 12);
        CHECK.same("the third one goes as far as the second one", w.move(0, 9, 999), 9);
        at(w, 12, 7, 14);
        CHECK.same("the first one's stop is a stop for all", w.move(0, 400, 999), 8);
        at(w, 20, 7, 14);
        CHECK.same("back, as far as each goes", w.move(0, -400, 999), -20);
        at(w, 0, 3, 10);
        CHECK.same("one behind takes none that is ahead", w.move(1, 2, 999), 2);
        at(w, 0, 5, 12);
        CHECK.same("at its stop it takes none", w.move(0, -1, 999), 0);
        at(w, 0, 5, 12);
    }

    private static void force() {
        CHECK.says("it moves a pull if the frictions of this one and all its followers .. are together at most the force");
        CHECK.same("less than all", row().move(0, 1, 20), 0);
        CHECK.same("as much as all", row().move(0, 1, 21), 1);
        CHECK.same("the second one with less", row().move(1, 1, 15), 0);
        CHECK.same("the second one with as much", row().move(1, 1, 16), 1);
        CHECK.same("the last one with less", row().move(2, 1, 8), 0);
        CHECK.same("the last one with as much", row().move(2, 1, 9), 1);
        Popupwright w = row();
        CHECK.same("with less", w.move(0, 3, 20), 0);
        CHECK.says("Returns how far it went, 0 if the force is not enough.");
        at(w, 0, 3, 10);
    }

    private static void forceAtStops() {
        CHECK.says("that are not at their stops in this direction");
        Popupwright w = row();
        w.move(0, 4, 999);
        CHECK.same("the second one is at its stop: with less", w.move(0, 1, 13), 0);
        CHECK.same("with as much as the others", w.move(0, 1, 14), 1);
        CHECK.same("back, it counts: with less", w.move(0, -1, 20), 0);
        CHECK.same("back, with as much as all", w.move(0, -1, 21), -1);
        Popupwright near = row();
        near.move(0, 3, 999);
        CHECK.same("1 ahead of its stop, it counts", near.move(0, 2, 20), 0);
        CHECK.same("with as much as all", near.move(0, 2, 21), 2);
        at(near, 5, 7, 14);
        Popupwright back = row();
        back.move(2, 20, 999);
        back.move(0, 2, 999);
        CHECK.same("the last one is at its stop, too: with less", back.move(0, 1, 11), 0);
        CHECK.same("with as much as both others", back.move(0, 1, 12), 1);
    }

    private static void mostForce() {
        CHECK.says("Each pull has a friction, 0 to 99; force: 0 to 999");
        Popupwright w = Books.one();
        for (int n = 0; n < 10; n++) {
            w.pull(0, 0, 30, 99);
        }
        for (int n = 0; n < 9; n++) {
            w.join(n, n + 1);
        }
        CHECK.same("ten of 99: with less", w.move(0, 5, 989), 0);
        CHECK.same("ten of 99: with as much", w.move(0, 5, 990), 5);
        CHECK.same("the last one went along", w.pullAt(9), 5);
    }

    private static void placeRefused() {
        CHECK.says("pullAt: Throws IndexOutOfBoundsException if there is no such pull");
        for (int pull : new int[] {-1, 3, 9, 10, LEAST, MOST}) {
            CHECK.refused("pull " + pull, INDEX, Books::rich, w -> w.pullAt(pull));
        }
        CHECK.refused("without a spread", INDEX, Books::none, w -> w.pullAt(0));
        CHECK.same("the last one of a full book", Books.full().pullAt(9), 9);
        CHECK.refused("10 of a full book", INDEX, Books::full, w -> w.pullAt(10));
        CHECK.same("on a torn fold it stays", Books.torn().pullAt(1), 8);
    }
}
