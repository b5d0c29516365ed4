/** Asks an object nearly all that can be asked: two that answer alike are alike. It is of no use after that. */
final class Probe {
    private static final int MOST_CALLS = 400;

    private interface Asked {
        double answer();
    }

    private final Popupwright w;
    private final StringBuilder all = new StringBuilder();
    private int calls = 0;
    private boolean hasAnswered;

    private Probe(Popupwright itsObject) {
        w = itsObject;
    }

    static String of(Popupwright w) {
        Probe probe = new Probe(w);
        probe.askSums();
        probe.askPlaces();
        probe.askFolds();
        probe.askViews();
        probe.askRows();
        probe.changeViews();
        probe.changePulls();
        probe.changeTheRest();
        if (probe.calls > MOST_CALLS) {
            throw new AssertionError(probe.calls + " calls: with these an object has been used more than promised");
        }
        return probe.all.toString();
    }

    private void ask(Asked call) {
        calls++;
        hasAnswered = true;
        try {
            all.append(call.answer());
        } catch (RuntimeException thrown) {
            hasAnswered = false;
            all.append(thrown.getClass().getSimpleName());
        }
        all.append(' ');
    }

    private void askSums() {
        ask(w::folds);
        ask(w::paper);
        ask(w::clashes);
        ask(() -> w.doesShut() ? 1 : 0);
        ask(() -> w.isGood() ? 1 : 0);
        ask(() -> w.forChild(2));
        ask(w::tornShare);
        ask(w::meanLength);
        ask(() -> w.scene(0));
        ask(() -> w.scene(7));
        ask(w::sheets);
        ask(() -> w.plates(0));
        ask(() -> w.plates(2));
        ask(w::makingTime);
        ask(() -> w.balance(2));
        ask(() -> w.copies(2, 100));
        ask(w::showStep);
    }

    private void askPlaces() {
        int step = w.folds() > 6 ? 5 : 1;
        for (int n = 0; n <= 2 * w.folds() + step; n += step) {
            int at = n;
            ask(() -> w.room(at, true));
            ask(() -> w.room(at, false));
        }
        for (int n = 0; n <= 4 * w.folds(); n += step) {
            int at = n;
            ask(() -> w.across(at, 1, 5));
            ask(() -> w.apart(at, at ^ 1, 9));
        }
    }

    private void askFolds() {
        for (int n = 0; n <= w.folds(); n += w.folds() > 6 ? 6 : 1) {
            int at = n;
            for (char what : new char[] {'s', 'x', 'y'}) {
                ask(() -> w.netAt(at, what));
            }
            ask(() -> w.orderAt(at));
            ask(() -> w.begunAt(at));
            ask(() -> w.waiting(at));
            ask(() -> w.tired(at));
            ask(() -> w.lasts(at, 7));
            ask(() -> w.sticksOut(at));
        }
    }

    private void askViews() {
        for (int strip = 0; strip < 5; strip++) {
            for (int place = 0; place < 12; place += 5) {
                int from = strip;
                int at = place;
                ask(() -> w.colourAt(from, at, 10));
                ask(() -> w.colourAt(from, at, 18));
                ask(() -> w.sees(13, 65 * at, 12 * from));
            }
        }
    }

    private void askRows() {
        hasAnswered = true;
        for (int n = 0; hasAnswered; n++) {
            int at = n;
            ask(() -> w.isWhole(at, 9) ? 1 : 0);
        }
        hasAnswered = true;
        for (int n = 0; hasAnswered; n++) {
            int at = n;
            ask(() -> w.pullAt(at));
        }
    }

    private void changeViews() {
        for (int n = 0; n < 5; n++) {
            int at = n;
            ask(() -> w.turn(at) ? 1 : 0);
            ask(() -> w.flap(at));
        }
        ask(() -> w.colourAt(1, 5, 18));
        ask(() -> w.picture(4, 0, 1, 10, 11, 1));
    }

    private void changePulls() {
        for (int n = 3; n >= 0; n--) {
            int at = n;
            ask(() -> w.move(at, 1, 4));
            ask(() -> w.move(at, 2, 12));
            ask(() -> w.move(at, -1, 999));
            ask(() -> w.join(at, 0));
        }
        for (int n = 0; n < 4; n++) {
            int at = n;
            ask(() -> w.pullAt(at));
        }
        ask(() -> w.pull(4, 0, 1, 1));
    }

    private void changeTheRest() {
        ask(() -> w.setPaper(200));
        ask(() -> w.setSheet(500, 700));
        ask(() -> w.setGlue(10));
        ask(() -> w.arm(0, true, 1, 10, 11));
        ask(() -> w.arm(0, false, 1, 10, 11));
        for (int n = 0; n < 3; n++) {
            int at = n;
            ask(() -> w.open(18, 9999));
            ask(() -> w.mend(at));
        }
        ask(() -> w.fold(1, 1, 1, 0, 1));
        ask(() -> w.fold(0, 1, 1, 0, 1));
    }
}
