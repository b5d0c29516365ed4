/** Books that several tests ask, each made anew for each asking. */
final class Books {
    private Books() {
    }

    static Popupwright none() {
        return new Popupwright();
    }

    static Popupwright empty() {
        Popupwright w = none();
        w.spread(100, 80);
        return w;
    }

    /** One fold: its ridge is at (40, 30), its part of y is 10 to 70. */
    static Popupwright one() {
        Popupwright w = empty();
        w.fold(0, 40, 30, 10, 70);
        return w;
    }

    /** One more fold in each crease of the first one. */
    static Popupwright three() {
        Popupwright w = one();
        w.fold(1, 20, 15, 10, 40);
        w.fold(2, 10, 50, 20, 60);
        return w;
    }

    /** Some of everything that can be put into a book, and none of it as in a new object. */
    static Popupwright rich() {
        Popupwright w = three();
        w.arm(0, true, 25, 10, 70);
        w.arm(2, false, 5, 20, 60);
        w.picture(0, 0, 30, 10, 70, 5);
        w.picture(1, 5, 35, 15, 65, 7);
        w.picture(1, 0, 10, 15, 20, 9);
        w.flap(1);
        w.flap(2);
        w.turn(2);
        w.pull(0, 0, 10, 4);
        w.pull(1, 5, 30, 8);
        w.pull(4, 0, 10, 5);
        w.join(1, 2);
        w.move(1, 3, 99);
        w.setPaper(150);
        w.setSheet(300, 200);
        w.setGlue(7);
        w.open(9, 40);
        return w;
    }

    /** The fold 0 is torn, the fold 1 is not, and the fold 2 was mended once. */
    static Popupwright torn() {
        Popupwright w = rich();
        w.open(18, 352);
        w.mend(2);
        return w;
    }

    /** No more folds, pictures and pulls can be made: 24, 30 and 10. */
    static Popupwright full() {
        Popupwright w = none();
        w.spread(400, 400);
        for (int n = 0; n < 24; n++) {
            w.fold(0, 20, 20, 10 * n, 10 * n + 10);
        }
        for (int n = 0; n < 30; n++) {
            w.picture(n % 4, 0, 1 + n % 20, 0, 10 - n % 9, 1 + n);
            if (n == 1) {
                w.arm(0, true, 30, 0, 10);
                w.arm(0, false, 30, 0, 10);
            }
        }
        for (int n = 0; n < 10; n++) {
            w.pull(0, n, 20, n);
        }
        for (int n = 0; n < 9; n++) {
            w.join(n, n + 1);
        }
        return w;
    }
}
