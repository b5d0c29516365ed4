/** Promises 21 to 24: pulls, and the rows that they make. */
public final class PullTest {
    private static final Check CHECK = new Check("PullTest");

    public static void main(String[] args) {
        pulls();
        pullsRefused();
        mostPulls();
        joins();
        joinsRefused();
        moves();
        followers();
        forces();
        movesRefused();
        CHECK.end();
    }

    private static void pulls() {
        Popupwright w = SpreadTest.one();
        CHECK.same("all of a strip", w.pull(0, 0, 30, 0), 0);
        CHECK.same("the least of it", w.pull(1, 39, 40, 99), 1);
        CHECK.same("it stands at its beginning", w.pullAt(1), 39);
        CHECK.same("another one on the same strip", w.pull(1, 3, 40, 99), 2);
        CHECK.same("it stands there", w.pullAt(2), 3);
        CHECK.fails("pullAt 3", IndexOutOfBoundsException.class, () -> w.pullAt(3));
        CHECK.fails("pullAt -1", IndexOutOfBoundsException.class, () -> w.pullAt(-1));
    }

    private static void pullsRefused() {
        Popupwright w = SpreadTest.one();
        Class<IllegalArgumentException> illegal = IllegalArgumentException.class;
        CHECK.fails("no strip", IndexOutOfBoundsException.class, () -> w.pull(2, -1, 0, 100));
        CHECK.fails("strip -1", IndexOutOfBoundsException.class, () -> w.pull(-1, 0, 1, 0));
        CHECK.fails("from", illegal, () -> w.pull(0, -1, 30, 0));
        CHECK.fails("to", illegal, () -> w.pull(0, 0, 31, 0));
        CHECK.fails("from as to", illegal, () -> w.pull(0, 4, 4, 0));
        CHECK.fails("friction -1", illegal, () -> w.pull(0, 0, 30, -1));
        CHECK.fails("friction 100", illegal, () -> w.pull(0, 0, 30, 100));
        CHECK.same("none of these was put", w.pull(0, 0, 30, 99), 0);
    }

    private static void mostPulls() {
        Popupwright w = SpreadTest.one();
        for (int n = 0; n < 10; n++) {
            CHECK.same("a pull", w.pull(0, n, 30, n), n);
        }
        CHECK.fails("one more", IllegalStateException.class, () -> w.pull(0, 0, 30, 0));
        CHECK.fails("one more, wrong", IllegalArgumentException.class, () -> w.pull(0, 0, 31, 0));
        CHECK.fails("one more, nowhere", IndexOutOfBoundsException.class, () -> w.pull(9, 0, 31, 0));
        for (int n = 8; n >= 0; n--) {
            CHECK.same("a row of all", w.join(n, n + 1), 9 - n);
        }
        CHECK.fails("no ring of all", UnsupportedOperationException.class, () -> w.join(9, 0));
        CHECK.same("all move", w.move(0, 5, 45), 5);
        CHECK.same("up to the last one", w.pullAt(9), 14);
        CHECK.same("all move, but with enough force", w.move(0, 5, 44), 0);
    }

    private static Popupwright four() {
        Popupwright w = SpreadTest.one();
        w.pull(1, 5, 30, 8);
        w.pull(0, 0, 10, 5);
        w.pull(1, 10, 40, 3);
        w.pull(0, 20, 30, 1);
        return w;
    }

    private static void joins() {
        Popupwright w = four();
        CHECK.same("one follows", w.join(0, 1), 1);
        CHECK.same("one more, joined ahead", w.join(2, 0), 2);
        CHECK.same("one more, joined behind", w.join(1, 3), 1);
        Popupwright other = four();
        CHECK.same("one follows", other.join(2, 3), 1);
        CHECK.same("another row", other.join(0, 1), 1);
        CHECK.same("both rows", other.join(1, 2), 2);
    }

    private static void joinsRefused() {
        Popupwright w = four();
        Class<UnsupportedOperationException> refused = UnsupportedOperationException.class;
        w.join(0, 1);
        CHECK.fails("no pull", IndexOutOfBoundsException.class, () -> w.join(4, 4));
        CHECK.fails("no follower", IndexOutOfBoundsException.class, () -> w.join(0, 4));
        CHECK.fails("pull -1", IndexOutOfBoundsException.class, () -> w.join(-1, 2));
        CHECK.fails("follower -1", IndexOutOfBoundsException.class, () -> w.join(2, -1));
        CHECK.fails("it has a follower", refused, () -> w.join(0, 2));
        CHECK.fails("it follows one", refused, () -> w.join(2, 1));
        CHECK.fails("itself", refused, () -> w.join(2, 2));
        CHECK.fails("a ring of two", refused, () -> w.join(1, 0));
        w.join(1, 2);
        CHECK.fails("a ring of three", refused, () -> w.join(2, 0));
        CHECK.same("but another one", w.join(2, 3), 1);
    }

    private static void moves() {
        Popupwright w = four();
        CHECK.same("on", w.move(0, 20, 8), 20);
        CHECK.same("there it stands", w.pullAt(0), 25);
        CHECK.same("as far as its slot", w.move(0, 20, 8), 5);
        CHECK.same("no further", w.move(0, 1, 999), 0);
        CHECK.same("back", w.move(0, -4, 8), -4);
        CHECK.same("there it stands", w.pullAt(0), 26);
        CHECK.same("as far back as its slot", w.move(0, -400, 8), -21);
        CHECK.same("no further back", w.move(0, -400, 999), 0);
        CHECK.same("there it stands", w.pullAt(0), 5);
        CHECK.same("as far as can be told", w.move(0, 400, 999), 25);
        CHECK.same("the others stand still", w.pullAt(1), 0);
    }

    private static void followers() {
        Popupwright w = four();
        w.join(0, 1);
        w.join(1, 2);
        CHECK.same("all three", w.move(0, 7, 16), 7);
        CHECK.same("the second one", w.pullAt(1), 7);
        CHECK.same("the third one", w.pullAt(2), 17);
        CHECK.same("one that stops does not stop the one ahead", w.move(0, 6, 16), 6);
        CHECK.same("the second one is at its stop", w.pullAt(1), 10);
        CHECK.same("the third one went as it did", w.pullAt(2), 20);
        CHECK.same("the third one is not at its stop, and counts", w.move(0, 5, 10), 0);
        CHECK.same("with enough force", w.move(0, 5, 11), 5);
        CHECK.same("the third one is not taken", w.pullAt(2), 20);
        CHECK.same("a follower alone takes but its own", w.move(1, -3, 8), -3);
        CHECK.same("not the one ahead", w.pullAt(0), 23);
        CHECK.same("but the one behind", w.pullAt(2), 17);
        CHECK.same("all back", w.move(0, -100, 16), -18);
        CHECK.same("the second one back", w.pullAt(1), 0);
        CHECK.same("the third one back", w.pullAt(2), 10);
    }

    private static void forces() {
        Popupwright w = four();
        w.join(0, 1);
        CHECK.same("less than both", w.move(0, 1, 12), 0);
        CHECK.same("nothing moved", w.pullAt(0) + w.pullAt(1), 5);
        CHECK.same("as much as both", w.move(0, 1, 13), 1);
        CHECK.same("its own", w.move(1, 9, 5), 9);
        CHECK.same("a stop frees the hand", w.move(0, 1, 8), 1);
        CHECK.same("but not of the one at its stop", w.move(0, 1, 7), 0);
        CHECK.same("back it does not", w.move(0, -1, 12), 0);
        Popupwright free = SpreadTest.one();
        free.pull(0, 0, 30, 0);
        CHECK.same("no friction, no force", free.move(0, 3, 0), 3);
    }

    private static void movesRefused() {
        Popupwright w = four();
        CHECK.fails("pull 4", IndexOutOfBoundsException.class, () -> w.move(4, 0, -1));
        CHECK.fails("pull -1", IndexOutOfBoundsException.class, () -> w.move(-1, 1, 1));
        for (int by : new int[] {0, 401, -401, Integer.MAX_VALUE, Integer.MIN_VALUE}) {
            CHECK.fails("by " + by, IllegalArgumentException.class, () -> w.move(0, by, 99));
        }
        for (int force : new int[] {-1, 1000}) {
            CHECK.fails("force " + force, IllegalArgumentException.class, () -> w.move(0, 1, force));
        }
        CHECK.same("nothing moved", w.pullAt(0), 5);
    }
}
