import java.util.NoSuchElementException;

/** A workshop for books that rise as they open. */
public final class Popupwright {
    private static final int MOST_FOLDS = 24;
    private static final int MOST_PICTURES = 30;
    private static final int MOST_PULLS = 10;
    private static final int MOST_MENDS = 3;
    private static final int MOST_LENGTH = 400;
    private static final int STRIPS_OF_FOLD = 4;
    private static final int LAST_STEP = 18;
    private static final int UNIT = 65;
    private static final int TORN_FROM = 20000;
    private static final int TAB = 10;
    private static final int GRID = 10;
    private static final int SMALL = 32;
    private static final int SAMPLE = 12;
    private static final int SAMPLE_LENGTH = 60;
    private static final int LEFT_PAGE = -1;
    private static final int RIGHT_PAGE = -2;
    private static final int NOTHING = -3;
    private static final int[] ALONG = {
        65, 63, 60, 56, 52, 39, 33, 25, 16, 0, -16, -25, -33, -39, -52, -56, -60, -63, -65
    };
    private static final int[] UP = {
        0, 16, 25, 33, 39, 52, 56, 60, 63, 65, 63, 60, 56, 52, 39, 33, 25, 16, 0
    };

    private final Book book;
    private final Layers layers;
    private final Pulls pulls;
    private final Nets nets;
    private final Hands hands;
    private final Wisher wisher;

    public Popupwright() {
        book = new Book();
        layers = new Layers(book);
        pulls = new Pulls();
        nets = new Nets(book);
        hands = new Hands(book);
        wisher = new Wisher(book);
    }

    public int spread(int width, int height) throws IllegalArgumentException {
        if (!isWithin(width, 20, 400) || !isWithin(height, 20, 400)) {
            throw new IllegalArgumentException("a page is 20 to 400 wide and high");
        }
        int before = book.count;
        book.begin(width, height);
        layers.count = 0;
        pulls.count = 0;
        return before;
    }

    public int fold(int crease, int a, int b, int low, int high)
            throws IndexOutOfBoundsException, IllegalArgumentException, IllegalStateException {
        return addFold(crease, a, b, low, high);
    }

    public int room(int crease, boolean isLeft) throws IndexOutOfBoundsException {
        Crease found = needCrease(crease);
        return isLeft ? found.leftRoom : found.rightRoom;
    }

    public int arm(int fold, boolean isFirst, int length, int low, int high)
            throws IndexOutOfBoundsException, IllegalArgumentException, UnsupportedOperationException {
        Fold found = needFold(fold);
        if (!isWithin(length, 1, MOST_LENGTH) || !isPart(low, high, found.low, found.high)) {
            throw new IllegalArgumentException("no such arm");
        }
        Strip arm = isFirst ? found.firstArm : found.secondArm;
        if (arm.isMade) {
            throw new UnsupportedOperationException("there is an arm");
        }
        found.layArm(isFirst, length, low, high);
        return STRIPS_OF_FOLD * fold + (isFirst ? 2 : 3);
    }

    public int across(int strip, int place, int step)
            throws IndexOutOfBoundsException, IllegalArgumentException {
        Strip found = needStrip(strip);
        if (!found.hasPlace(place) || !isStep(step)) {
            throw new IllegalArgumentException("no such place or step");
        }
        return found.acrossAt(place, step);
    }

    public int above(int strip, int place, int step)
            throws IndexOutOfBoundsException, IllegalArgumentException {
        Strip found = needStrip(strip);
        if (!found.hasPlace(place) || !isStep(step)) {
            throw new IllegalArgumentException("no such place or step");
        }
        return found.aboveAt(place, step);
    }

    public long apart(int strip, int other, int step)
            throws IndexOutOfBoundsException, IllegalArgumentException {
        Strip one = needStrip(strip);
        Strip two = needStrip(other);
        needStep(step);
        long sideways = one.acrossAt(one.length, step) - two.acrossAt(two.length, step);
        long upwards = one.aboveAt(one.length, step) - two.aboveAt(two.length, step);
        return sideways * sideways + upwards * upwards;
    }

    public boolean doesShut() throws UnsupportedOperationException {
        needSpread();
        return book.isAllInside();
    }

    public int sticksOut(int fold) throws IndexOutOfBoundsException {
        return Math.max(0, needFold(fold).reach() - book.width);
    }

    public int clashes() {
        return book.clashPairs();
    }

    public int clashOf(int strip) throws IndexOutOfBoundsException, NoSuchElementException {
        Strip found = needStrip(strip);
        int lowest = book.lowestClash(found);
        if (lowest < 0) {
            throw new NoSuchElementException("it clashes with none");
        }
        return lowest;
    }

    public boolean isGood() throws UnsupportedOperationException {
        needSpread();
        return book.standsWell();
    }

    public int sees(int step, int x, int y) throws IllegalArgumentException, NoSuchElementException {
        needView(step);
        int seen = layers.seenAt(step, x, y);
        if (seen == NOTHING) {
            throw new NoSuchElementException("nothing is seen there");
        }
        return seen;
    }

    public int picture(int strip, int from, int to, int low, int high, int colour)
            throws IndexOutOfBoundsException, IllegalArgumentException, IllegalStateException {
        Strip found = needStrip(strip);
        if (!isPart(from, to, 0, found.length) || !isPart(low, high, found.low, found.high)
                || !isWithin(colour, 1, 99)) {
            throw new IllegalArgumentException("not on the strip, or no such colour");
        }
        if (layers.count >= MOST_PICTURES) {
            throw new IllegalStateException("there are 30 pictures");
        }
        Picture added = layers.add(strip, colour);
        added.cover(from, to, low, high);
        return layers.count - 1;
    }

    public int colourAt(int strip, int place, int y)
            throws IndexOutOfBoundsException, IllegalArgumentException {
        Strip found = needStrip(strip);
        if (!found.hasPlace(place) || !isWithin(y, found.low, found.high)) {
            throw new IllegalArgumentException("not on the strip");
        }
        return layers.printedAt(strip, place, y);
    }

    public boolean isWhole(int picture, int step)
            throws IndexOutOfBoundsException, IllegalArgumentException {
        Picture found = needPicture(picture);
        needView(step);
        return layers.areCornersSeen(found, step);
    }

    public int showStep() throws NoSuchElementException {
        int step = layers.firstStepForAll();
        if (step < 0) {
            throw new NoSuchElementException("no step shows all pictures");
        }
        return step;
    }

    public int flap(int picture) throws IndexOutOfBoundsException, UnsupportedOperationException {
        Picture found = needPicture(picture);
        if (found.hasFlap) {
            throw new UnsupportedOperationException("it has a flap");
        }
        found.hasFlap = true;
        found.isFlapDown = true;
        return layers.flapCount();
    }

    public boolean turn(int picture) throws IndexOutOfBoundsException, UnsupportedOperationException {
        Picture found = needPicture(picture);
        if (!found.hasFlap) {
            throw new UnsupportedOperationException("it has no flap");
        }
        found.isFlapDown = !found.isFlapDown;
        return found.isFlapDown;
    }

    public int pull(int strip, int from, int to, int friction)
            throws IndexOutOfBoundsException, IllegalArgumentException, IllegalStateException {
        Strip found = needStrip(strip);
        if (!isPart(from, to, 0, found.length) || !isWithin(friction, 0, 99)) {
            throw new IllegalArgumentException("not on the strip, or no such friction");
        }
        if (pulls.count >= MOST_PULLS) {
            throw new IllegalStateException("there are 10 pulls");
        }
        return pulls.add(from, to, friction);
    }

    public int join(int pull, int follower)
            throws IndexOutOfBoundsException, UnsupportedOperationException {
        Pull leader = needPull(pull);
        Pull other = needPull(follower);
        if (leader.follower != null || other.isFollowing || other.leadsTo(leader)) {
            throw new UnsupportedOperationException("they cannot be joined");
        }
        leader.follower = other;
        other.isFollowing = true;
        return leader.followers();
    }

    public int move(int pull, int by, int force)
            throws IndexOutOfBoundsException, IllegalArgumentException {
        Pull found = needPull(pull);
        if (by == 0 || !isWithin(by, -MOST_LENGTH, MOST_LENGTH) || !isWithin(force, 0, 999)) {
            throw new IllegalArgumentException("no such way or force");
        }
        return found.resistance(by) <= force ? found.drag(by) : 0;
    }

    public int pullAt(int pull) throws IndexOutOfBoundsException {
        return needPull(pull).place;
    }

    public int setSheet(int width, int length) throws IllegalArgumentException {
        if (!isWithin(width, 20, 2000) || !isWithin(length, 20, 2000)) {
            throw new IllegalArgumentException("a sheet is 20 to 2000 wide and long");
        }
        int before = nets.sheetLength;
        nets.sheetWidth = width;
        nets.sheetLength = length;
        return before;
    }

    public int sheets() throws UnsupportedOperationException {
        layNets();
        return nets.sheetCount;
    }

    public int netAt(int fold, char what)
            throws IndexOutOfBoundsException, IllegalArgumentException, UnsupportedOperationException {
        needFold(fold);
        if (what != 's' && what != 'x' && what != 'y') {
            throw new IllegalArgumentException("no such thing of a net");
        }
        layNets();
        return nets.told(fold, what);
    }

    public int plates(int adds) throws IllegalArgumentException, UnsupportedOperationException {
        if (!isWithin(adds, 0, 99)) {
            throw new IllegalArgumentException("0 to 99 is added");
        }
        layNets();
        return nets.plateCount(layers, adds);
    }

    public int setGlue(int minutes) throws IllegalArgumentException {
        if (!isWithin(minutes, 0, 99)) {
            throw new IllegalArgumentException("glue dries in 0 to 99 minutes");
        }
        int before = hands.drying;
        hands.drying = minutes;
        return before;
    }

    public int orderAt(int index) throws NoSuchElementException {
        if (index < 0 || index >= book.count) {
            throw new NoSuchElementException("no such fold in the order");
        }
        hands.plan();
        return hands.order[index];
    }

    public int begunAt(int fold) throws IndexOutOfBoundsException {
        needFold(fold);
        hands.plan();
        return hands.begun[fold];
    }

    public int waiting(int fold) throws IndexOutOfBoundsException {
        needFold(fold);
        hands.plan();
        return hands.waiters[fold];
    }

    public int makingTime() {
        hands.plan();
        return hands.lastMinute;
    }

    public int balance(int stations) throws IllegalArgumentException {
        needStations(stations);
        hands.plan();
        return hands.leastGreatest(stations);
    }

    public int copies(int stations, int minutes)
            throws IllegalArgumentException, UnsupportedOperationException {
        needStations(stations);
        if (!isWithin(minutes, 1, 9999)) {
            throw new IllegalArgumentException("a day has 1 to 9999 minutes");
        }
        if (book.count == 0) {
            throw new UnsupportedOperationException("there is no fold");
        }
        hands.plan();
        int first = hands.allMinutes();
        int further = hands.leastGreatest(stations);
        return minutes < first || further < 1 ? 0 : 1 + (minutes - first) / further;
    }

    public int setPaper(int weight) throws IllegalArgumentException {
        if (!isWithin(weight, 100, 400)) {
            throw new IllegalArgumentException("paper has a weight of 100 to 400");
        }
        int before = book.weight;
        book.weight = weight;
        return before;
    }

    public int open(int step, int times) throws IllegalArgumentException, UnsupportedOperationException {
        needOpening(step);
        if (!isWithin(times, 1, 9999)) {
            throw new IllegalArgumentException("it is opened 1 to 9999 times");
        }
        needSpread();
        book.tireAll(step, times);
        return book.tornCount();
    }

    public int tired(int fold) throws IndexOutOfBoundsException {
        return needFold(fold).tiredness;
    }

    public int lasts(int fold, int step)
            throws IndexOutOfBoundsException, IllegalArgumentException, UnsupportedOperationException {
        Fold found = needFold(fold);
        needOpening(step);
        if (found.isTorn) {
            throw new UnsupportedOperationException("it is torn");
        }
        return found.openingsLeft(step, book.weight);
    }

    public int mend(int fold) throws IndexOutOfBoundsException, UnsupportedOperationException {
        Fold found = needFold(fold);
        if (!found.isTorn || found.mends >= MOST_MENDS) {
            throw new UnsupportedOperationException("it cannot be mended");
        }
        found.patch();
        return found.mends;
    }

    public int wish(int i, int j, int low, int high)
            throws IllegalArgumentException, UnsupportedOperationException, NoSuchElementException {
        if (!isWithin(i, 1, MOST_LENGTH) || !isWithin(j, 1, MOST_LENGTH)) {
            throw new IllegalArgumentException("a ridge is at 1 to 400");
        }
        needSpread();
        if (!isPart(low, high, 0, book.height)) {
            throw new UnsupportedOperationException("no such part of y");
        }
        wisher.ask(i, j, low, high);
        int made = wisher.isMadeByOne() ? 1 : 2;
        if (made == 2 && !wisher.isMadeByTwo()) {
            throw new NoSuchElementException("no folds make this ridge");
        }
        book.count += made;
        return made;
    }

    public int restore(int crease, int both, int mark, boolean isLeft, int low, int high)
            throws IndexOutOfBoundsException, IllegalArgumentException, IllegalStateException {
        // If this wraps around, the mark or the rest is longer than any room, and is refused.
        int rest = both - mark;
        return isLeft ? addFold(crease, mark, rest, low, high) : addFold(crease, rest, mark, low, high);
    }

    public char forChild(int years) throws IllegalArgumentException, UnsupportedOperationException {
        if (!isWithin(years, 0, 99)) {
            throw new IllegalArgumentException("a child has 0 to 99 years");
        }
        needSpread();
        if (!book.standsWell()) {
            return 'g';
        }
        if (years < 3 && book.hasSmallNet()) {
            return 'p';
        }
        return years < 6 && book.hasLongArm() ? 'a' : 'y';
    }

    public int folds() {
        return book.count;
    }

    public long paper() {
        return book.netAreas();
    }

    public long scene(int step) throws IllegalArgumentException {
        needStep(step);
        return book.endsSum(step);
    }

    public float tornShare() throws ArithmeticException {
        if (book.count == 0) {
            throw new ArithmeticException("there are no folds");
        }
        return (float) book.tornCount() / (float) book.count;
    }

    public double meanLength() throws ArithmeticException {
        int number = book.stripCount();
        if (number == 0) {
            throw new ArithmeticException("there are no strips");
        }
        return (double) book.lengthsSum() / (double) number;
    }

    public boolean isSound() {
        hands.plan();
        return book.keepsLengths() && book.clashesByHalves() && hands.waitsTillDry();
    }

    private int addFold(int crease, int a, int b, int low, int high) {
        Crease found = needCrease(crease);
        if (!found.holds(a, b) || !isPart(low, high, found.low, found.high)) {
            throw new IllegalArgumentException("the crease has no room for it");
        }
        if (book.count >= MOST_FOLDS) {
            throw new IllegalStateException("there are 24 folds");
        }
        book.glueInto(book.count, crease, a, b, low, high);
        book.count++;
        return book.count - 1;
    }

    private void layNets() {
        if (!nets.layAll()) {
            throw new UnsupportedOperationException("a net cannot be laid");
        }
    }

    private void needSpread() {
        if (!book.isBegun) {
            throw new UnsupportedOperationException("there is no spread");
        }
    }

    private Crease needCrease(int number) {
        Crease found = book.creaseOf(number);
        if (found == null) {
            throw new IndexOutOfBoundsException("no such crease");
        }
        return found;
    }

    private Fold needFold(int number) {
        Fold found = book.foldOf(number);
        if (found == null) {
            throw new IndexOutOfBoundsException("no such fold");
        }
        return found;
    }

    private Strip needStrip(int number) {
        Strip found = book.stripOf(number);
        if (found == null) {
            throw new IndexOutOfBoundsException("no such strip");
        }
        return found;
    }

    private Picture needPicture(int number) {
        Picture found = layers.pictureOf(number);
        if (found == null) {
            throw new IndexOutOfBoundsException("no such picture");
        }
        return found;
    }

    private Pull needPull(int number) {
        Pull found = pulls.pullOf(number);
        if (found == null) {
            throw new IndexOutOfBoundsException("no such pull");
        }
        return found;
    }

    private void needStep(int step) {
        if (!isStep(step)) {
            throw new IllegalArgumentException("no such step");
        }
    }

    private void needView(int step) {
        if (!isWithin(step, 1, LAST_STEP - 1)) {
            throw new IllegalArgumentException("no such step for an eye");
        }
    }

    private void needOpening(int step) {
        if (!isWithin(step, 1, LAST_STEP)) {
            throw new IllegalArgumentException("no such step of an opening");
        }
    }

    private void needStations(int stations) {
        if (!isWithin(stations, 1, 9)) {
            throw new IllegalArgumentException("there are 1 to 9 stations");
        }
    }

    private static boolean isWithin(int number, int least, int most) {
        return number >= least && number <= most;
    }

    private static boolean isPart(int from, int to, int least, int most) {
        return from >= least && from < to && to <= most;
    }

    private static boolean isStep(int step) {
        return isWithin(step, 0, LAST_STEP);
    }

    private static int alongOf(int step) {
        return step >= 0 && step < ALONG.length ? ALONG[step] : 0;
    }

    private static int upOf(int step) {
        return step >= 0 && step < UP.length ? UP[step] : 0;
    }

    /** A panel, an arm or a page. */
    static final class Strip {
        boolean isMade;
        boolean isRight;
        int i;
        int j;
        int length;
        int low;
        int high;

        void lay(boolean isAlongRight, int fromI, int fromJ, int itsLength, int itsLow, int itsHigh) {
            isMade = true;
            isRight = isAlongRight;
            i = fromI;
            j = fromJ;
            length = itsLength;
            low = itsLow;
            high = itsHigh;
        }

        boolean hasPlace(int place) {
            return isWithin(place, 0, length);
        }

        int acrossAt(int place, int step) {
            int atI = isRight ? i : i + place;
            int atJ = isRight ? j + place : j;
            return UNIT * atI + alongOf(step) * atJ;
        }

        int aboveAt(int place, int step) {
            return upOf(step) * (isRight ? j + place : j);
        }

        int reach() {
            return i + j + length;
        }

        boolean sharesY(Strip other) {
            return low < other.high && other.low < high;
        }

        boolean clashesWith(Strip other) {
            return sharesY(other) && (isRight == other.isRight ? overlaps(other) : crosses(other));
        }

        private boolean overlaps(Strip other) {
            boolean isInLine = isRight ? i == other.i : j == other.j;
            int ahead = isRight ? other.j - j : other.i - i;
            return isInLine && ahead < length && -ahead < other.length;
        }

        private boolean crosses(Strip other) {
            int toI = other.i - i;
            int toJ = other.j - j;
            return isRight
                    ? toJ > 0 && toJ < length && toI < 0 && -toI < other.length
                    : toI > 0 && toI < length && toJ < 0 && -toJ < other.length;
        }

        boolean meetsByHalves(Strip other) {
            if (!sharesY(other)) {
                return false;
            }
            for (int half = 1; half < 2 * length; half++) {
                int twiceI = isRight ? 2 * i : 2 * i + half;
                int twiceJ = isRight ? 2 * j + half : 2 * j;
                if (other.hasInside(twiceI, twiceJ)) {
                    return true;
                }
            }
            return false;
        }

        private boolean hasInside(int twiceI, int twiceJ) {
            int aside = isRight ? twiceI - 2 * i : twiceJ - 2 * j;
            int along = isRight ? twiceJ - 2 * j : twiceI - 2 * i;
            return aside == 0 && along > 0 && along < 2 * length;
        }

        // Heights are told in parts of s / |c|, which all strips share in a step:
        // so they stay whole numbers, and compare as the true heights do.
        long heightOver(int x, int y, long along) {
            long size = along < 0 ? -along : along;
            if (y < low || y > high) {
                return NOTHING;
            }
            if (isRight) {
                long parts = along < 0 ? (long) UNIT * i - x : x - (long) UNIT * i;
                boolean isOver = size > 0 && parts >= size * j && parts <= size * (j + length);
                return isOver ? parts : NOTHING;
            }
            long beyond = x - (long) UNIT * i - along * j;
            return beyond >= 0 && beyond <= (long) UNIT * length ? Math.max(size, 1) * j : NOTHING;
        }

        boolean keepsLength() {
            long wanted = (long) UNIT * length;
            for (int step = 0; step <= LAST_STEP; step++) {
                long sideways = acrossAt(length, step) - acrossAt(0, step);
                long upwards = aboveAt(length, step) - aboveAt(0, step);
                if (sideways * sideways + upwards * upwards != wanted * wanted) {
                    return false;
                }
            }
            return true;
        }
    }

    /** A place into which folds are glued. */
    static final class Crease {
        int i;
        int j;
        int leftRoom;
        int rightRoom;
        int low;
        int high;

        void stand(int cornerI, int cornerJ, int itsLeftRoom, int itsRightRoom) {
            i = cornerI;
            j = cornerJ;
            leftRoom = itsLeftRoom;
            rightRoom = itsRightRoom;
        }

        void span(int itsLow, int itsHigh) {
            low = itsLow;
            high = itsHigh;
        }

        boolean holds(int a, int b) {
            return isWithin(a, 1, leftRoom) && isWithin(b, 1, rightRoom);
        }
    }

    /** A piece with two panels, and the arms on these. */
    static final class Fold {
        final Strip firstPanel = new Strip();
        final Strip secondPanel = new Strip();
        final Strip firstArm = new Strip();
        final Strip secondArm = new Strip();
        int crease;
        int a;
        int b;
        int low;
        int high;
        int tiredness;
        int mends;
        boolean isTorn;

        void begin(int itsCrease, int itsA, int itsB, int itsLow, int itsHigh) {
            crease = itsCrease;
            a = itsA;
            b = itsB;
            low = itsLow;
            high = itsHigh;
            tiredness = 0;
            mends = 0;
            isTorn = false;
            firstArm.isMade = false;
            secondArm.isMade = false;
        }

        void layPanels(int cornerI, int cornerJ) {
            firstPanel.lay(true, cornerI + a, cornerJ, b, low, high);
            secondPanel.lay(false, cornerI, cornerJ + b, a, low, high);
        }

        void layArm(boolean isFirst, int length, int armLow, int armHigh) {
            Strip arm = isFirst ? firstArm : secondArm;
            arm.lay(isFirst, firstPanel.i, secondPanel.j, length, armLow, armHigh);
        }

        int arms() {
            return (firstArm.isMade ? 1 : 0) + (secondArm.isMade ? 1 : 0);
        }

        private int armLength(Strip arm) {
            return arm.isMade ? arm.length : 0;
        }

        private int longerArm() {
            return Math.max(armLength(firstArm), armLength(secondArm));
        }

        // Torn or not: then its strips are none, but the fold and its arms are still there.
        int reach() {
            return firstPanel.reach() + longerArm();
        }

        boolean isLong(Strip arm) {
            return arm.isMade && arm.length > 3 * (arm.high - arm.low);
        }

        int netWidth() {
            return high - low;
        }

        int netLength() {
            return a + b + 2 * TAB + longerArm();
        }

        int glueMinutes() {
            return (high - low) / 10 + 1;
        }

        boolean liesOver(Fold other, boolean isLater) {
            if (crease != other.crease || other.a > a || other.b > b) {
                return false;
            }
            boolean isAlike = other.a == a && other.b == b;
            return (isLater || !isAlike) && Math.max(low, other.low) < Math.min(high, other.high);
        }

        int tiresBy(int step, int weight) {
            return step * weight / 100 * (1 + arms());
        }

        int openingsLeft(int step, int weight) {
            int each = tiresBy(step, weight);
            return each < 1 || isTorn ? 0 : (TORN_FROM - 1 - tiredness) / each;
        }

        void tire(int step, int weight, int times) {
            if (!isTorn) {
                int till = openingsLeft(step, weight) + 1;
                tiredness += tiresBy(step, weight) * Math.min(till, times);
                isTorn = tiredness >= TORN_FROM;
            }
        }

        void patch() {
            tiredness = tiredness / 2;
            isTorn = tiredness >= TORN_FROM;
            mends++;
        }
    }

    /** The spread with its creases, folds and strips. */
    static final class Book {
        final Fold[] folds = new Fold[MOST_FOLDS];
        final Crease[] creases = new Crease[2 * MOST_FOLDS + 1];
        final Strip[] strips = new Strip[STRIPS_OF_FOLD * MOST_FOLDS];
        final Strip leftPage = new Strip();
        final Strip rightPage = new Strip();
        final Strip[] sample = new Strip[SAMPLE];
        boolean isBegun;
        int width;
        int height;
        int count;
        int weight = 200;

        Book() {
            for (int n = 0; n < folds.length; n++) {
                Fold fold = new Fold();
                folds[n] = fold;
                strips[STRIPS_OF_FOLD * n] = fold.firstPanel;
                strips[STRIPS_OF_FOLD * n + 1] = fold.secondPanel;
                strips[STRIPS_OF_FOLD * n + 2] = fold.firstArm;
                strips[STRIPS_OF_FOLD * n + 3] = fold.secondArm;
            }
            for (int n = 0; n < creases.length; n++) {
                creases[n] = new Crease();
            }
        }

        void begin(int itsWidth, int itsHeight) {
            isBegun = true;
            width = itsWidth;
            height = itsHeight;
            count = 0;
            creases[0].stand(0, 0, width, width);
            creases[0].span(0, height);
            leftPage.lay(false, 0, 0, width, 0, height);
            rightPage.lay(true, 0, 0, width, 0, height);
        }

        Crease creaseOf(int number) {
            return isBegun && number >= 0 && number <= 2 * count ? creases[number] : null;
        }

        Fold foldOf(int number) {
            return number >= 0 && number < count ? folds[number] : null;
        }

        Strip stripOf(int number) {
            return stripAmong(number, count);
        }

        private Strip stripAmong(int number, int foldsThere) {
            if (number < 0 || number >= STRIPS_OF_FOLD * foldsThere) {
                return null;
            }
            boolean isThere = strips[number].isMade && !folds[number / STRIPS_OF_FOLD].isTorn;
            return isThere ? strips[number] : null;
        }

        // Does not count the fold yet, so that a wish can try folds and leave no trace.
        void glueInto(int number, int crease, int a, int b, int low, int high) {
            Crease into = creases[crease];
            Fold fold = folds[number];
            fold.begin(crease, a, b, low, high);
            fold.layPanels(into.i, into.j);
            Crease first = creases[2 * number + 1];
            Crease second = creases[2 * number + 2];
            first.stand(into.i + a, into.j, into.leftRoom - a, b);
            first.span(low, high);
            second.stand(into.i, into.j + b, a, into.rightRoom - b);
            second.span(low, high);
        }

        boolean isAllInside() {
            for (int n = 0; n < STRIPS_OF_FOLD * count; n++) {
                Strip strip = stripOf(n);
                if (strip != null && strip.reach() > width) {
                    return false;
                }
            }
            return true;
        }

        int lowestClash(Strip strip) {
            return lowestClashAmong(strip, count);
        }

        private int lowestClashAmong(Strip strip, int foldsThere) {
            for (int n = 0; n < STRIPS_OF_FOLD * foldsThere; n++) {
                Strip other = stripAmong(n, foldsThere);
                if (other != null && other != strip && strip.clashesWith(other)) {
                    return n;
                }
            }
            return -1;
        }

        int clashPairs() {
            int pairs = 0;
            for (int n = 0; n < STRIPS_OF_FOLD * count; n++) {
                Strip strip = stripOf(n);
                if (strip != null) {
                    pairs += clashesBelow(strip, n);
                }
            }
            return pairs;
        }

        private int clashesBelow(Strip strip, int number) {
            int found = 0;
            for (int n = 0; n < number; n++) {
                Strip other = stripOf(n);
                if (other != null && strip.clashesWith(other)) {
                    found++;
                }
            }
            return found;
        }

        boolean standsWell() {
            return isAllInside() && clashPairs() == 0;
        }

        // For a book that stands well: a new fold adds but its two panels.
        boolean standsWellWith(int number) {
            Fold fold = folds[number];
            return fold.firstPanel.reach() <= width
                    && lowestClashAmong(fold.firstPanel, number) < 0
                    && lowestClashAmong(fold.secondPanel, number) < 0;
        }

        void tireAll(int step, int times) {
            for (int n = 0; n < count; n++) {
                folds[n].tire(step, weight, times);
            }
        }

        int tornCount() {
            int torn = 0;
            for (int n = 0; n < count; n++) {
                if (folds[n].isTorn) {
                    torn++;
                }
            }
            return torn;
        }

        boolean hasSmallNet() {
            for (int n = 0; n < count; n++) {
                if (folds[n].netWidth() < SMALL && folds[n].netLength() < SMALL) {
                    return true;
                }
            }
            return false;
        }

        boolean hasLongArm() {
            for (int n = 0; n < count; n++) {
                Fold fold = folds[n];
                if (fold.isLong(fold.firstArm) || fold.isLong(fold.secondArm)) {
                    return true;
                }
            }
            return false;
        }

        long netAreas() {
            long sum = 0;
            for (int n = 0; n < count; n++) {
                sum += (long) folds[n].netWidth() * folds[n].netLength();
            }
            return sum;
        }

        long endsSum(int step) {
            long sum = 0;
            for (int n = 0; n < STRIPS_OF_FOLD * count; n++) {
                Strip strip = stripOf(n);
                if (strip != null) {
                    long told = strip.acrossAt(strip.length, step) + strip.aboveAt(strip.length, step);
                    sum += (n + 1) * told;
                }
            }
            return sum;
        }

        int stripCount() {
            int number = 0;
            for (int n = 0; n < STRIPS_OF_FOLD * count; n++) {
                if (stripOf(n) != null) {
                    number++;
                }
            }
            return number;
        }

        int lengthsSum() {
            int sum = 0;
            for (int n = 0; n < STRIPS_OF_FOLD * count; n++) {
                Strip strip = stripOf(n);
                if (strip != null) {
                    sum += strip.length;
                }
            }
            return sum;
        }

        boolean keepsLengths() {
            for (int n = 0; n < STRIPS_OF_FOLD * count; n++) {
                Strip strip = stripOf(n);
                if (strip != null && !strip.keepsLength()) {
                    return false;
                }
            }
            return true;
        }

        boolean clashesByHalves() {
            int taken = takeSample();
            for (int n = 0; n < taken; n++) {
                for (int m = 0; m < n; m++) {
                    if (sample[n].clashesWith(sample[m]) != sample[n].meetsByHalves(sample[m])) {
                        return false;
                    }
                }
            }
            return true;
        }

        private int takeSample() {
            int taken = 0;
            for (int n = 0; n < STRIPS_OF_FOLD * count && taken < SAMPLE; n++) {
                Strip strip = stripOf(n);
                if (strip != null && strip.length <= SAMPLE_LENGTH) {
                    sample[taken] = strip;
                    taken++;
                }
            }
            return taken;
        }
    }

    /** A picture on a strip, and the flap over it. */
    static final class Picture {
        int strip;
        int from;
        int to;
        int low;
        int high;
        int colour;
        boolean hasFlap;
        boolean isFlapDown;

        void begin(int itsStrip, int itsColour) {
            strip = itsStrip;
            colour = itsColour;
            hasFlap = false;
            isFlapDown = false;
        }

        void cover(int itsFrom, int itsTo, int itsLow, int itsHigh) {
            from = itsFrom;
            to = itsTo;
            low = itsLow;
            high = itsHigh;
        }

        boolean isAt(int itsStrip, int place, int y) {
            return strip == itsStrip && isWithin(place, from, to) && isWithin(y, low, high);
        }
    }

    /** The pictures in the order in which they were put, and the eye that looks at them. */
    static final class Layers {
        final Book book;
        final Picture[] pictures = new Picture[MOST_PICTURES];
        int count;

        Layers(Book itsBook) {
            book = itsBook;
            for (int n = 0; n < pictures.length; n++) {
                pictures[n] = new Picture();
            }
        }

        Picture pictureOf(int number) {
            return number >= 0 && number < count ? pictures[number] : null;
        }

        // Only called while there is room for one more.
        Picture add(int strip, int colour) {
            Picture added = pictures[count];
            added.begin(strip, colour);
            count++;
            return added;
        }

        int flapCount() {
            int flaps = 0;
            for (int n = 0; n < count; n++) {
                if (pictures[n].hasFlap) {
                    flaps++;
                }
            }
            return flaps;
        }

        int printedAt(int strip, int place, int y) {
            int colour = 0;
            for (int n = 0; n < count; n++) {
                if (pictures[n].isAt(strip, place, y)) {
                    if (pictures[n].isFlapDown) {
                        return 0;
                    }
                    colour = pictures[n].colour;
                }
            }
            return colour;
        }

        int seenAt(int step, int x, int y) {
            long along = alongOf(step);
            int seen = NOTHING;
            long highest = NOTHING;
            for (int n = 0; n < STRIPS_OF_FOLD * book.count; n++) {
                Strip strip = book.stripOf(n);
                if (strip != null) {
                    long there = strip.heightOver(x, y, along);
                    if (there > highest) {
                        highest = there;
                        seen = n;
                    }
                }
            }
            if (!book.isBegun) {
                return NOTHING;
            }
            long left = book.leftPage.heightOver(x, y, along);
            if (left > highest) {
                highest = left;
                seen = LEFT_PAGE;
            }
            return book.rightPage.heightOver(x, y, along) > highest ? RIGHT_PAGE : seen;
        }

        boolean areCornersSeen(Picture picture, int step) {
            return isPlaceSeen(picture, picture.from, step) && isPlaceSeen(picture, picture.to, step);
        }

        private boolean isPlaceSeen(Picture picture, int place, int step) {
            Strip strip = book.stripOf(picture.strip);
            if (strip == null) {
                return false;
            }
            int x = strip.acrossAt(place, step);
            return seenAt(step, x, picture.low) == picture.strip
                    && seenAt(step, x, picture.high) == picture.strip;
        }

        int firstStepForAll() {
            if (count == 0) {
                return -1;
            }
            for (int step = 1; step < LAST_STEP; step++) {
                if (areAllSeen(step)) {
                    return step;
                }
            }
            return -1;
        }

        private boolean areAllSeen(int step) {
            for (int n = 0; n < count; n++) {
                if (!areCornersSeen(pictures[n], step)) {
                    return false;
                }
            }
            return true;
        }
    }

    /** A pull in its slot. */
    static final class Pull {
        int from;
        int to;
        int friction;
        int place;
        boolean isFollowing;
        Pull follower;

        void begin(int itsFrom, int itsTo, int itsFriction) {
            from = itsFrom;
            to = itsTo;
            friction = itsFriction;
            place = itsFrom;
            isFollowing = false;
            follower = null;
        }

        boolean leadsTo(Pull other) {
            Pull next = this;
            for (int n = 0; n < MOST_PULLS && next != null; n++) {
                if (next == other) {
                    return true;
                }
                next = next.follower;
            }
            return false;
        }

        int followers() {
            int number = 0;
            Pull next = follower;
            while (number < MOST_PULLS && next != null) {
                number++;
                next = next.follower;
            }
            return number;
        }

        // Followers that would not be reached count, too: only a stop frees them.
        int resistance(int by) {
            int sum = 0;
            Pull next = this;
            for (int n = 0; n < MOST_PULLS && next != null; n++) {
                if (next.way(by) != 0) {
                    sum += next.friction;
                }
                next = next.follower;
            }
            return sum;
        }

        private int way(int by) {
            return by > 0 ? Math.min(by, to - place) : Math.max(by, from - place);
        }

        int drag(int by) {
            int went = way(by);
            int passed = by;
            Pull next = this;
            for (int n = 0; n < MOST_PULLS && next != null; n++) {
                passed = next.way(passed);
                next.place += passed;
                next = next.follower;
            }
            return went;
        }
    }

    /** The pulls by their numbers. */
    static final class Pulls {
        final Pull[] pulls = new Pull[MOST_PULLS];
        int count;

        Pulls() {
            for (int n = 0; n < pulls.length; n++) {
                pulls[n] = new Pull();
            }
        }

        Pull pullOf(int number) {
            return number >= 0 && number < count ? pulls[number] : null;
        }

        // Only called while there is room for one more.
        int add(int from, int to, int friction) {
            pulls[count].begin(from, to, friction);
            count++;
            return count - 1;
        }
    }

    /** How the nets lie on shelves of sheets. */
    static final class Nets {
        final Book book;
        final int[] sheetOfNet = new int[MOST_FOLDS];
        final int[] acrossOfNet = new int[MOST_FOLDS];
        final int[] alongOfNet = new int[MOST_FOLDS];
        final int[] sheetOfShelf = new int[MOST_FOLDS];
        final int[] alongOfShelf = new int[MOST_FOLDS];
        final int[] lengthOfShelf = new int[MOST_FOLDS];
        final int[] usedOfShelf = new int[MOST_FOLDS];
        final int[] usedOfSheet = new int[MOST_FOLDS];
        int sheetWidth = 500;
        int sheetLength = 700;
        int shelfCount;
        int sheetCount;

        Nets(Book itsBook) {
            book = itsBook;
        }

        boolean layAll() {
            shelfCount = 0;
            sheetCount = 0;
            if (!fitsEach()) {
                return false;
            }
            int laid = 0;
            for (int n = 0; n < book.count; n++) {
                int next = firstLeft(laid);
                if (next < 0) {
                    return false;
                }
                laid |= 1 << next;
                lay(next);
            }
            return true;
        }

        private boolean fitsEach() {
            for (int n = 0; n < book.count; n++) {
                Fold fold = book.folds[n];
                if (fold.netWidth() > sheetWidth || fold.netLength() > sheetLength) {
                    return false;
                }
            }
            return true;
        }

        private int firstLeft(int laid) {
            int first = -1;
            for (int n = 0; n < book.count; n++) {
                if ((laid & 1 << n) == 0 && (first < 0 || goesAhead(n, first))) {
                    first = n;
                }
            }
            return first;
        }

        private boolean goesAhead(int fold, int lower) {
            Fold one = book.folds[fold];
            Fold other = book.folds[lower];
            if (one.netLength() != other.netLength()) {
                return one.netLength() > other.netLength();
            }
            return one.netWidth() > other.netWidth();
        }

        private void lay(int fold) {
            int width = book.folds[fold].netWidth();
            int length = book.folds[fold].netLength();
            int shelf = shelfFor(width, length);
            if (shelf < 0) {
                shelf = newShelf(length);
            }
            if (shelf < 0) {
                return;
            }
            sheetOfNet[fold] = sheetOfShelf[shelf];
            acrossOfNet[fold] = usedOfShelf[shelf];
            alongOfNet[fold] = alongOfShelf[shelf];
            usedOfShelf[shelf] += width;
        }

        private int shelfFor(int width, int length) {
            for (int sheet = 0; sheet < sheetCount; sheet++) {
                for (int shelf = 0; shelf < shelfCount; shelf++) {
                    if (sheetOfShelf[shelf] == sheet && lengthOfShelf[shelf] >= length
                            && usedOfShelf[shelf] + width <= sheetWidth) {
                        return shelf;
                    }
                }
            }
            return -1;
        }

        private int newShelf(int length) {
            int sheet = 0;
            while (sheet < sheetCount && usedOfSheet[sheet] + length > sheetLength) {
                sheet++;
            }
            if (sheet >= MOST_FOLDS || shelfCount >= MOST_FOLDS) {
                return -1;
            }
            if (sheet == sheetCount) {
                usedOfSheet[sheet] = 0;
                sheetCount++;
            }
            int shelf = shelfCount;
            shelfCount++;
            sheetOfShelf[shelf] = sheet;
            alongOfShelf[shelf] = usedOfSheet[sheet];
            lengthOfShelf[shelf] = length;
            usedOfShelf[shelf] = 0;
            usedOfSheet[sheet] += length;
            return shelf;
        }

        int told(int fold, char what) {
            if (what == 's') {
                return sheetOfNet[fold];
            }
            return what == 'x' ? acrossOfNet[fold] : alongOfNet[fold];
        }

        int plateCount(Layers layers, int adds) {
            int plates = 0;
            for (int n = 0; n < layers.count; n++) {
                int colour = layers.pictures[n].colour;
                int sheet = sheetOf(layers.pictures[n]);
                boolean isCounted = hasColour(layers, n, sheet, colour);
                boolean isMade = adds > 0 && hasColour(layers, layers.count, sheet, colour + adds);
                if (!isCounted && !isMade) {
                    plates++;
                }
            }
            return plates;
        }

        private boolean hasColour(Layers layers, int before, int sheet, int colour) {
            for (int n = 0; n < before; n++) {
                Picture picture = layers.pictures[n];
                if (picture.colour == colour && sheetOf(picture) == sheet) {
                    return true;
                }
            }
            return false;
        }

        private int sheetOf(Picture picture) {
            return sheetOfNet[picture.strip / STRIPS_OF_FOLD];
        }
    }

    /** The order in which hands glue the folds; a set of folds is told by the bits of a number. */
    static final class Hands {
        final Book book;
        final int[] waitsFor = new int[MOST_FOLDS];
        final int[] waitsForAll = new int[MOST_FOLDS];
        final int[] waiters = new int[MOST_FOLDS];
        final int[] dryAt = new int[MOST_FOLDS];
        final int[] order = new int[MOST_FOLDS];
        final int[] begun = new int[MOST_FOLDS];
        int drying = 10;
        int lastMinute;

        Hands(Book itsBook) {
            book = itsBook;
        }

        void plan() {
            for (int n = 0; n < book.count; n++) {
                waitsFor[n] = straightWaits(n);
                waitsForAll[n] = waitsFor[n];
                waiters[n] = 0;
                dryAt[n] = 0;
            }
            addWaitsByOthers();
            countWaiters();
            glueAll();
        }

        private int straightWaits(int fold) {
            Fold one = book.folds[fold];
            int waits = one.crease > 0 ? 1 << (one.crease - 1) / 2 : 0;
            for (int n = 0; n < book.count; n++) {
                if (n != fold && one.liesOver(book.folds[n], n < fold)) {
                    waits |= 1 << n;
                }
            }
            return waits;
        }

        private void addWaitsByOthers() {
            for (int by = 0; by < book.count; by++) {
                for (int n = 0; n < book.count; n++) {
                    if ((waitsForAll[n] & 1 << by) != 0) {
                        waitsForAll[n] |= waitsForAll[by];
                    }
                }
            }
        }

        private void countWaiters() {
            for (int n = 0; n < book.count; n++) {
                for (int waiter = 0; waiter < book.count; waiter++) {
                    if ((waitsForAll[waiter] & 1 << n) != 0) {
                        waiters[n]++;
                    }
                }
            }
        }

        private void glueAll() {
            int glued = 0;
            int minute = 0;
            lastMinute = 0;
            for (int n = 0; n < book.count; n++) {
                int next = taken(glued, minute);
                if (next < 0) {
                    minute = nextDry(glued, minute);
                    next = taken(glued, minute);
                }
                if (next < 0) {
                    return;
                }
                order[n] = next;
                begun[next] = minute;
                minute += book.folds[next].glueMinutes();
                lastMinute = minute;
                glued |= 1 << next;
                holdWaiters(next, minute + drying);
            }
        }

        private boolean isReached(int fold, int glued) {
            return (glued & 1 << fold) == 0 && (waitsFor[fold] & ~glued) == 0;
        }

        private int taken(int glued, int minute) {
            int best = -1;
            for (int n = 0; n < book.count; n++) {
                if (isReached(n, glued) && dryAt[n] <= minute
                        && (best < 0 || waiters[n] > waiters[best])) {
                    best = n;
                }
            }
            return best;
        }

        private int nextDry(int glued, int minute) {
            int next = -1;
            for (int n = 0; n < book.count; n++) {
                if (isReached(n, glued) && (next < 0 || dryAt[n] < next)) {
                    next = dryAt[n];
                }
            }
            return Math.max(next, minute);
        }

        private void holdWaiters(int fold, int dry) {
            for (int n = 0; n < book.count; n++) {
                if ((waitsFor[n] & 1 << fold) != 0) {
                    dryAt[n] = Math.max(dryAt[n], dry);
                }
            }
        }

        int allMinutes() {
            int sum = 0;
            for (int n = 0; n < book.count; n++) {
                sum += book.folds[n].glueMinutes();
            }
            return sum;
        }

        int leastGreatest(int stations) {
            int longest = 0;
            for (int n = 0; n < book.count; n++) {
                longest = Math.max(longest, book.folds[n].glueMinutes());
            }
            int all = allMinutes();
            for (int time = longest; time < all; time++) {
                if (stationsWithin(time) <= stations) {
                    return time;
                }
            }
            return all;
        }

        private int stationsWithin(int time) {
            int stations = 1;
            int used = 0;
            for (int n = 0; n < book.count; n++) {
                int takes = book.folds[order[n]].glueMinutes();
                if (used + takes > time) {
                    stations++;
                    used = 0;
                }
                used += takes;
            }
            return stations;
        }

        boolean waitsTillDry() {
            for (int n = 0; n < book.count; n++) {
                for (int other = 0; other < book.count; other++) {
                    int dry = begun[other] + book.folds[other].glueMinutes() + drying;
                    if ((waitsFor[n] & 1 << other) != 0 && begun[n] < dry) {
                        return false;
                    }
                }
            }
            return true;
        }
    }

    /** Finds the folds for a wished ridge, and leaves them uncounted behind the folds of the book. */
    static final class Wisher {
        final Book book;
        int ridgeI;
        int ridgeJ;
        int low;
        int high;
        boolean isHopeless;

        Wisher(Book itsBook) {
            book = itsBook;
        }

        void ask(int i, int j, int itsLow, int itsHigh) {
            ridgeI = i;
            ridgeJ = j;
            low = itsLow;
            high = itsHigh;
            // No fold takes a clash away or pulls a ridge inside.
            isHopeless = ridgeI + ridgeJ > book.width || !book.standsWell();
        }

        boolean isMadeByOne() {
            int creases = isHopeless || book.count + 1 > MOST_FOLDS ? 0 : 2 * book.count + 1;
            for (int crease = 0; crease < creases; crease++) {
                if (goesInto(book.count, crease)) {
                    return true;
                }
            }
            return false;
        }

        private boolean goesInto(int number, int crease) {
            if (!isHeld(book.creases[crease])) {
                return false;
            }
            int a = ridgeI - book.creases[crease].i;
            int b = ridgeJ - book.creases[crease].j;
            book.glueInto(number, crease, a, b, low, high);
            return book.standsWellWith(number);
        }

        private boolean isHeld(Crease crease) {
            return isPart(low, high, crease.low, crease.high)
                    && crease.holds(ridgeI - crease.i, ridgeJ - crease.j);
        }

        boolean isMadeByTwo() {
            int creases = isHopeless || book.count + 2 > MOST_FOLDS ? 0 : 2 * book.count + 1;
            for (int crease = 0; crease < creases; crease++) {
                Crease into = book.creases[crease];
                // The second one lies in the rooms of the first one's crease, so these hold it, too.
                int longest = isHeld(into) ? into.leftRoom : 0;
                for (int a = GRID; a <= longest; a += GRID) {
                    for (int b = GRID; b <= into.rightRoom; b += GRID) {
                        if (isMadeOver(crease, a, b)) {
                            return true;
                        }
                    }
                }
            }
            return false;
        }

        private boolean isMadeOver(int crease, int a, int b) {
            int first = book.count;
            int itsFirst = 2 * first + 1;
            int itsSecond = 2 * first + 2;
            book.glueInto(first, crease, a, b, low, high);
            if (!isHeld(book.creases[itsFirst]) && !isHeld(book.creases[itsSecond])) {
                return false;
            }
            return book.standsWellWith(first)
                    && (goesInto(first + 1, itsFirst) || goesInto(first + 1, itsSecond));
        }
    }
}
