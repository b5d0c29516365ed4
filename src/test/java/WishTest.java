/** Promise 41 in long drawn runs: folds and arms in small books, until a wish needs two folds, or fails. */
public final class WishTest {
    private static final Check CHECK = new Check("WishTest");
    private static long seed;
    private static final int[] ANSWERS = new int[3];

    private Popupwright fast;
    private Slow slow;
    private int width;
    private int height;
    private int made;
    private int madeI;
    private int madeJ;

    public static void main(String[] args) {
        for (int book = 1; book <= 3000; book++) {
            seed = 104729L * book;
            new WishTest().play();
        }
        CHECK.yes("some wishes take one fold", ANSWERS[1] > 500);
        CHECK.yes("some take two", ANSWERS[2] > 500);
        CHECK.yes("some fail", ANSWERS[0] > 500);
        CHECK.end();
    }

    private static int draw(int least, int most) {
        seed = seed * 6364136223846793005L + 1442695040888963407L;
        return least + (int) ((seed >>> 33) % (most - least + 1));
    }

    private void play() {
        fast = new Popupwright();
        slow = new Slow();
        width = draw(20, draw(0, 3) == 0 ? 90 : 50);
        height = draw(20, 40);
        fast.spread(width, height);
        slow.spread(width, height);
        for (int n = 0; n < 14 && slow.isGood(); n++) {
            wish();
            if (draw(0, 2) > 0 && slow.folds() > 0) {
                arm(slow.folds() - 1, true, draw(1, 4));
                arm(slow.folds() - 1, false, draw(1, 4));
            }
        }
    }

    private void wish() {
        int i = draw(0, 1) == 0 ? 10 * draw(1, width / 10) : draw(1, width);
        int j = draw(0, 1) == 0 ? 10 * draw(1, width / 10) : draw(1, Math.max(1, width - i));
        if (made > 0 && draw(0, 3) > 0) {
            // Ridges in line with one that has arms are those that need two folds.
            int ahead = draw(0, 6) * draw(1, 5);
            boolean isAlongLeft = draw(0, 1) == 0;
            i = Math.min(400, madeI + (isAlongLeft ? ahead : 0));
            j = Math.min(400, madeJ + (isAlongLeft ? 0 : ahead));
        }
        boolean isAll = draw(0, 2) > 0;
        int low = isAll ? 0 : draw(0, 2) * height / 4;
        int high = isAll || draw(0, 1) == 0 ? height : low + height / 4;
        int got = 0;
        int due = 0;
        try {
            due = slow.wish(i, j, low, high);
        } catch (java.util.NoSuchElementException none) {
            due = 0;
        }
        try {
            got = fast.wish(i, j, low, high);
        } catch (java.util.NoSuchElementException none) {
            got = 0;
        }
        ANSWERS[due]++;
        if (due > 0) {
            made = due;
            madeI = i;
            madeJ = j;
        }
        String call = width + " wide: wish(" + i + ", " + j + ", " + low + ", " + high + ")";
        CHECK.same(call, got, due);
        CHECK.same(call + " folds", fast.folds(), slow.folds());
        CHECK.same(call + " scene", fast.scene(7), slow.scene(7));
        CHECK.same(call + " paper", fast.paper(), slow.paper());
        CHECK.same(call + " waiting", fast.makingTime(), slow.makingTime());
        for (int n = 0; n <= 2 * slow.folds(); n++) {
            CHECK.same(call + " room " + n, fast.room(n, n % 3 == 0), slow.room(n, n % 3 == 0));
        }
    }

    private void arm(int fold, boolean isFirst, int length) {
        try {
            int due = slow.arm(fold, isFirst, length, 0, height);
            CHECK.same("arm", fast.arm(fold, isFirst, length, 0, height), due);
        } catch (RuntimeException none) {
            // Its y is less, or there is one: another wish comes next.
            return;
        }
    }
}
