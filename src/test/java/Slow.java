import java.math.BigInteger;
import java.util.ArrayList;
import java.util.HashSet;
import java.util.List;
import java.util.NoSuchElementException;
import java.util.Set;
import java.util.TreeSet;

/** The document once more, in the slowest and plainest way, to hold answers against. */
final class Slow {
    static final int[][] WAYS = {
        {65, 0}, {63, 16}, {60, 25}, {56, 33}, {52, 39}, {39, 52}, {33, 56}, {25, 60}, {16, 63}, {0, 65},
        {-16, 63}, {-25, 60}, {-33, 56}, {-39, 52}, {-52, 39}, {-56, 33}, {-60, 25}, {-63, 16}, {-65, 0}
    };

    static final class Piece {
        int crease, a, b, low, high, tired, mends;
        int[][] arms = new int[2][];
    }

    static final class Bar {
        int number, i, j, length, low, high;
        boolean right;

        int endI() {
            return right ? i : i + length;
        }

        int endJ() {
            return right ? j + length : j;
        }
    }

    static final class Layer {
        int strip, from, to, low, high, colour, flap;
    }

    static final class Slot {
        int from, to, friction, at, next = -1;
    }

    private boolean begun;
    private int width, height, weight = 200, sheetWidth = 500, sheetLength = 700, glue = 10;
    private List<Piece> pieces = new ArrayList<>();
    private List<Layer> layers = new ArrayList<>();
    private List<Slot> slots = new ArrayList<>();

    int spread(int w, int h) {
        illegal(w < 20 || w > 400 || h < 20 || h > 400);
        int before = pieces.size();
        begun = true;
        width = w;
        height = h;
        pieces = new ArrayList<>();
        layers = new ArrayList<>();
        slots = new ArrayList<>();
        return before;
    }

    /** corner i, corner j, left room, right room, low, high */
    private int[] crease(int n) {
        if (n == 0) {
            return new int[] {0, 0, width, width, 0, height};
        }
        Piece p = pieces.get((n - 1) / 2);
        int[] of = crease(p.crease);
        if (n % 2 == 1) {
            return new int[] {of[0] + p.a, of[1], of[2] - p.a, p.b, p.low, p.high};
        }
        return new int[] {of[0], of[1] + p.b, p.a, of[3] - p.b, p.low, p.high};
    }

    private void index(boolean wrong) {
        if (wrong) {
            throw new IndexOutOfBoundsException();
        }
    }

    private void illegal(boolean wrong) {
        if (wrong) {
            throw new IllegalArgumentException();
        }
    }

    private void state(boolean wrong) {
        if (wrong) {
            throw new IllegalStateException();
        }
    }

    private void unsupported(boolean wrong) {
        if (wrong) {
            throw new UnsupportedOperationException();
        }
    }

    private void missing(boolean wrong) {
        if (wrong) {
            throw new NoSuchElementException();
        }
    }

    private boolean noCrease(int n) {
        return !begun || n < 0 || n > 2 * pieces.size();
    }

    private boolean noFold(int n) {
        return n < 0 || n >= pieces.size();
    }

    private boolean holds(int crease, int a, int b, int low, int high) {
        int[] c = crease(crease);
        return a >= 1 && b >= 1 && a <= c[2] && b <= c[3] && low >= c[4] && high <= c[5] && low < high;
    }

    int fold(int crease, int a, int b, int low, int high) {
        index(noCrease(crease));
        illegal(!holds(crease, a, b, low, high));
        state(pieces.size() == 24);
        return put(crease, a, b, low, high);
    }

    private int put(int crease, int a, int b, int low, int high) {
        Piece p = new Piece();
        p.crease = crease;
        p.a = a;
        p.b = b;
        p.low = low;
        p.high = high;
        pieces.add(p);
        return pieces.size() - 1;
    }

    int room(int crease, boolean left) {
        index(noCrease(crease));
        return crease(crease)[left ? 2 : 3];
    }

    int arm(int fold, boolean first, int length, int low, int high) {
        index(noFold(fold));
        Piece p = pieces.get(fold);
        illegal(length < 1 || length > 400 || low < p.low || high > p.high || low >= high);
        unsupported(p.arms[first ? 0 : 1] != null);
        p.arms[first ? 0 : 1] = new int[] {length, low, high};
        return 4 * fold + (first ? 2 : 3);
    }

    private Bar bar(int n) {
        if (n < 0 || n >= 4 * pieces.size() || pieces.get(n / 4).tired >= 20000) {
            return null;
        }
        Piece p = pieces.get(n / 4);
        int[] c = crease(p.crease);
        int which = n % 4;
        Bar bar = new Bar();
        bar.number = n;
        bar.right = which % 2 == 0;
        if (which < 2) {
            bar.i = which == 0 ? c[0] + p.a : c[0];
            bar.j = which == 0 ? c[1] : c[1] + p.b;
            bar.length = which == 0 ? p.b : p.a;
            bar.low = p.low;
            bar.high = p.high;
            return bar;
        }
        int[] arm = p.arms[which - 2];
        if (arm == null) {
            return null;
        }
        bar.i = c[0] + p.a;
        bar.j = c[1] + p.b;
        bar.length = arm[0];
        bar.low = arm[1];
        bar.high = arm[2];
        return bar;
    }

    /** For those who draw calls: length, low and high of a strip; something else if there is none. */
    int[] extent(int strip) {
        Bar bar = bar(strip);
        return bar == null ? new int[] {20, 0, 20} : new int[] {bar.length, bar.low, bar.high};
    }

    /** For those who draw calls: low and high of a crease. */
    int[] heights(int crease) {
        return noCrease(crease) ? new int[] {0, 20} : new int[] {crease(crease)[4], crease(crease)[5]};
    }

    /** For those who draw calls: rooms, low and high of a crease; something else if there is none. */
    int[] rooms(int crease) {
        if (noCrease(crease)) {
            return new int[] {20, 20, 0, 20};
        }
        int[] c = crease(crease);
        return new int[] {c[2], c[3], c[4], c[5]};
    }

    /** For those who draw calls: low and high of a fold, torn or not. */
    int[] panel(int fold) {
        return noFold(fold) ? new int[] {0, 20} : new int[] {pieces.get(fold).low, pieces.get(fold).high};
    }

    /** For those who draw calls: i and j of a fold's ridge. */
    int[] ridge(int fold) {
        int[] c = crease(pieces.get(fold).crease);
        return new int[] {c[0] + pieces.get(fold).a, c[1] + pieces.get(fold).b};
    }

    /** For those who draw calls: strip, from, to, low and high of a picture. */
    int[] layer(int picture) {
        if (noPicture(picture)) {
            return new int[] {0, 0, 1, 0, 1};
        }
        Layer layer = layers.get(picture);
        return new int[] {layer.strip, layer.from, layer.to, layer.low, layer.high};
    }

    /** For those who draw calls: whether a picture there would be whole. */
    boolean isSeen(int strip, int[] along, int[] y, int step) {
        Layer layer = new Layer();
        layer.strip = strip;
        layer.from = along[0];
        layer.to = along[1];
        layer.low = y[0];
        layer.high = y[1];
        return whole(layer, step);
    }

    boolean hasStrip(int strip) {
        return bar(strip) != null;
    }

    boolean isTorn(int fold) {
        return !noFold(fold) && pieces.get(fold).tired >= 20000;
    }

    boolean isParentTorn(int fold) {
        return !noFold(fold) && pieces.get(fold).crease > 0 && isTorn((pieces.get(fold).crease - 1) / 2);
    }

    int tornNow() {
        return torn();
    }

    /** For those who draw calls: whether the book would be good with this fold. */
    boolean staysGood(int crease, int a, int b, int low, int high) {
        if (noCrease(crease) || !holds(crease, a, b, low, high)) {
            return false;
        }
        int number = put(crease, a, b, low, high);
        boolean isGood = good();
        pieces.remove(number);
        return isGood;
    }

    /** For those who draw calls: whether the book would be good with this arm. */
    boolean staysGoodWithArm(int fold, boolean first, int length, int low, int high) {
        if (noFold(fold) || pieces.get(fold).arms[first ? 0 : 1] != null) {
            return false;
        }
        pieces.get(fold).arms[first ? 0 : 1] = new int[] {length, low, high};
        boolean isGood = good();
        pieces.get(fold).arms[first ? 0 : 1] = null;
        return isGood;
    }

    private List<Bar> bars() {
        List<Bar> all = new ArrayList<>();
        for (int n = 0; n < 4 * pieces.size(); n++) {
            if (bar(n) != null) {
                all.add(bar(n));
            }
        }
        return all;
    }

    private int[] stand(Bar bar, int place, int step) {
        int i = bar.right ? bar.i : bar.i + place;
        int j = bar.right ? bar.j + place : bar.j;
        return new int[] {65 * i + WAYS[step][0] * j, WAYS[step][1] * j};
    }

    private int stands(int strip, int place, int step, int which) {
        index(bar(strip) == null);
        illegal(place < 0 || place > bar(strip).length || step < 0 || step > 18);
        return stand(bar(strip), place, step)[which];
    }

    int across(int strip, int place, int step) {
        return stands(strip, place, step, 0);
    }

    int above(int strip, int place, int step) {
        return stands(strip, place, step, 1);
    }

    long apart(int strip, int other, int step) {
        index(bar(strip) == null || bar(other) == null);
        illegal(step < 0 || step > 18);
        int[] one = stand(bar(strip), bar(strip).length, step);
        int[] two = stand(bar(other), bar(other).length, step);
        BigInteger dx = BigInteger.valueOf(one[0] - two[0]);
        BigInteger dy = BigInteger.valueOf(one[1] - two[1]);
        return dx.multiply(dx).add(dy.multiply(dy)).longValueExact();
    }

    private boolean shuts() {
        for (Bar bar : bars()) {
            if (bar.endI() + bar.endJ() > width) {
                return false;
            }
        }
        return true;
    }

    boolean doesShut() {
        unsupported(!begun);
        return shuts();
    }

    int sticksOut(int fold) {
        index(noFold(fold));
        Piece p = pieces.get(fold);
        int before = p.tired;
        p.tired = 0;
        int most = 0;
        for (Bar bar : bars()) {
            if (bar.number / 4 == fold) {
                most = Math.max(most, bar.endI() + bar.endJ() - width);
            }
        }
        p.tired = before;
        return most;
    }

    private static boolean inside(Bar bar, int twiceI, int twiceJ) {
        if (bar.right) {
            return twiceI == 2 * bar.i && 2 * bar.j < twiceJ && twiceJ < 2 * bar.endJ();
        }
        return twiceJ == 2 * bar.j && 2 * bar.i < twiceI && twiceI < 2 * bar.endI();
    }

    private static boolean clash(Bar one, Bar two) {
        boolean shareY = false;
        for (int y = one.low; y < one.high; y++) {
            shareY |= two.low <= y && y + 1 <= two.high;
        }
        if (!shareY) {
            return false;
        }
        for (int half = 1; half < 2 * one.length; half++) {
            int twiceI = 2 * one.i + (one.right ? 0 : half);
            int twiceJ = 2 * one.j + (one.right ? half : 0);
            if (inside(two, twiceI, twiceJ)) {
                return true;
            }
        }
        return false;
    }

    int clashes() {
        int pairs = 0;
        List<Bar> all = bars();
        for (int n = 0; n < all.size(); n++) {
            for (int m = n + 1; m < all.size(); m++) {
                pairs += clash(all.get(n), all.get(m)) ? 1 : 0;
            }
        }
        return pairs;
    }

    int clashOf(int strip) {
        Bar one = bar(strip);
        index(one == null);
        for (Bar other : bars()) {
            if (other.number != strip && clash(one, other)) {
                return other.number;
            }
        }
        throw new NoSuchElementException();
    }

    private boolean good() {
        return shuts() && clashes() == 0;
    }

    boolean isGood() {
        unsupported(!begun);
        return good();
    }

    int sees(int step, int x, int y) {
        illegal(step < 1 || step > 17);
        int seen = look(step, x, y);
        missing(seen == -3);
        return seen;
    }

    private Bar page(int number) {
        Bar bar = new Bar();
        bar.number = number;
        bar.right = number == -2;
        bar.length = width;
        bar.high = height;
        return bar;
    }

    /** Heights are fractions here: numerator and a denominator above 0. */
    private int look(int step, int x, int y) {
        if (!begun) {
            return -3;
        }
        List<Bar> all = bars();
        all.add(page(-1));
        all.add(page(-2));
        int seen = -3;
        BigInteger bestUp = BigInteger.valueOf(-1);
        BigInteger bestDown = BigInteger.ONE;
        for (Bar bar : all) {
            BigInteger[] h = y < bar.low || y > bar.high ? null : over(bar, step, x);
            if (h != null && h[0].multiply(bestDown).compareTo(bestUp.multiply(h[1])) > 0) {
                seen = bar.number;
                bestUp = h[0];
                bestDown = h[1];
            }
        }
        return seen;
    }

    private BigInteger[] over(Bar bar, int step, int x) {
        long c = WAYS[step][0];
        long s = WAYS[step][1];
        long off = (long) x - 65L * bar.i;
        if (!bar.right) {
            long along = off - c * bar.j;
            if (along < 0 || along > 65L * bar.length) {
                return null;
            }
            return new BigInteger[] {BigInteger.valueOf(s * bar.j), BigInteger.ONE};
        }
        if (c == 0) {
            return null;
        }
        long up = c < 0 ? -off : off;
        long down = Math.abs(c);
        if (up < bar.j * down || up > (bar.j + bar.length) * down) {
            return null;
        }
        return new BigInteger[] {BigInteger.valueOf(s * up), BigInteger.valueOf(down)};
    }

    int picture(int strip, int from, int to, int low, int high, int colour) {
        Bar bar = bar(strip);
        index(bar == null);
        illegal(from < 0 || to > bar.length || from >= to || low < bar.low || high > bar.high || low >= high
                || colour < 1 || colour > 99);
        state(layers.size() == 30);
        Layer layer = new Layer();
        layer.strip = strip;
        layer.from = from;
        layer.to = to;
        layer.low = low;
        layer.high = high;
        layer.colour = colour;
        layers.add(layer);
        return layers.size() - 1;
    }

    int colourAt(int strip, int place, int y) {
        Bar bar = bar(strip);
        index(bar == null);
        illegal(place < 0 || place > bar.length || y < bar.low || y > bar.high);
        int colour = 0;
        boolean hidden = false;
        for (Layer layer : layers) {
            boolean covers = layer.strip == strip && layer.from <= place && place <= layer.to
                    && layer.low <= y && y <= layer.high;
            if (covers) {
                colour = layer.colour;
                hidden |= layer.flap == 1;
            }
        }
        return hidden ? 0 : colour;
    }

    private boolean noPicture(int n) {
        return n < 0 || n >= layers.size();
    }

    private boolean whole(Layer layer, int step) {
        Bar bar = bar(layer.strip);
        if (bar == null) {
            return false;
        }
        for (int place : new int[] {layer.from, layer.to}) {
            for (int y : new int[] {layer.low, layer.high}) {
                if (look(step, stand(bar, place, step)[0], y) != layer.strip) {
                    return false;
                }
            }
        }
        return true;
    }

    boolean isWhole(int picture, int step) {
        index(noPicture(picture));
        illegal(step < 1 || step > 17);
        return whole(layers.get(picture), step);
    }

    int showStep() {
        missing(layers.isEmpty());
        for (int step = 1; step <= 17; step++) {
            boolean all = true;
            for (Layer layer : layers) {
                all &= whole(layer, step);
            }
            if (all) {
                return step;
            }
        }
        throw new NoSuchElementException();
    }

    int flap(int picture) {
        index(noPicture(picture));
        unsupported(layers.get(picture).flap != 0);
        layers.get(picture).flap = 1;
        int flaps = 0;
        for (Layer layer : layers) {
            flaps += layer.flap != 0 ? 1 : 0;
        }
        return flaps;
    }

    boolean turn(int picture) {
        index(noPicture(picture));
        unsupported(layers.get(picture).flap == 0);
        layers.get(picture).flap = -layers.get(picture).flap;
        return layers.get(picture).flap == 1;
    }

    int pull(int strip, int from, int to, int friction) {
        Bar bar = bar(strip);
        index(bar == null);
        illegal(from < 0 || to > bar.length || from >= to || friction < 0 || friction > 99);
        state(slots.size() == 10);
        Slot slot = new Slot();
        slot.from = from;
        slot.to = to;
        slot.friction = friction;
        slot.at = from;
        slots.add(slot);
        return slots.size() - 1;
    }

    private boolean noPull(int n) {
        return n < 0 || n >= slots.size();
    }

    private List<Integer> row(int pull) {
        List<Integer> row = new ArrayList<>();
        for (int n = pull; n >= 0; n = slots.get(n).next) {
            row.add(n);
        }
        return row;
    }

    int join(int pull, int follower) {
        index(noPull(pull) || noPull(follower));
        boolean follows = false;
        for (Slot slot : slots) {
            follows |= slot.next == follower;
        }
        unsupported(slots.get(pull).next >= 0 || follows || row(follower).contains(pull));
        slots.get(pull).next = follower;
        return row(pull).size() - 1;
    }

    int move(int pull, int by, int force) {
        index(noPull(pull));
        illegal(by == 0 || by < -400 || by > 400 || force < 0 || force > 999);
        int frictions = 0;
        for (int n : row(pull)) {
            Slot slot = slots.get(n);
            frictions += slot.at == (by > 0 ? slot.to : slot.from) ? 0 : slot.friction;
        }
        if (frictions > force) {
            return 0;
        }
        int sign = by > 0 ? 1 : -1;
        int most = Math.abs(by);
        int first = -1;
        for (int n : row(pull)) {
            Slot slot = slots.get(n);
            int went = 0;
            while (went < most && slot.at != (sign > 0 ? slot.to : slot.from)) {
                slot.at += sign;
                went++;
            }
            most = went;
            first = first < 0 ? went : first;
        }
        return sign * first;
    }

    int pullAt(int pull) {
        index(noPull(pull));
        return slots.get(pull).at;
    }

    int setSheet(int w, int l) {
        illegal(w < 20 || w > 2000 || l < 20 || l > 2000);
        int before = sheetLength;
        sheetWidth = w;
        sheetLength = l;
        return before;
    }

    private int netWidth(Piece p) {
        return p.high - p.low;
    }

    private int netLength(Piece p) {
        int longest = 0;
        for (int[] arm : p.arms) {
            longest = arm == null ? longest : Math.max(longest, arm[0]);
        }
        return p.a + p.b + 20 + longest;
    }

    /** For each fold the sheet, x and y; and the number of sheets behind them. */
    private List<int[]> laid() {
        List<Integer> order = new ArrayList<>();
        for (int n = 0; n < pieces.size(); n++) {
            Piece p = pieces.get(n);
            unsupported(netWidth(p) > sheetWidth || netLength(p) > sheetLength);
            order.add(n);
        }
        order.sort((m, n) -> {
            Piece p = pieces.get(m);
            Piece q = pieces.get(n);
            if (netLength(p) != netLength(q)) {
                return netLength(q) - netLength(p);
            }
            return netWidth(p) != netWidth(q) ? netWidth(q) - netWidth(p) : m - n;
        });
        List<List<int[]>> sheets = new ArrayList<>();
        int[][] places = new int[pieces.size() + 1][];
        for (int n : order) {
            places[n] = place(sheets, netWidth(pieces.get(n)), netLength(pieces.get(n)));
        }
        places[pieces.size()] = new int[] {sheets.size()};
        return List.of(places);
    }

    /** A shelf is its y, its length, and how much of its width is used. */
    private int[] place(List<List<int[]>> sheets, int w, int l) {
        for (int s = 0; s < sheets.size(); s++) {
            for (int[] shelf : sheets.get(s)) {
                if (shelf[1] >= l && sheetWidth - shelf[2] >= w) {
                    shelf[2] += w;
                    return new int[] {s, shelf[2] - w, shelf[0]};
                }
            }
        }
        for (int s = 0; s <= sheets.size(); s++) {
            if (s == sheets.size()) {
                sheets.add(new ArrayList<>());
            }
            int y = 0;
            for (int[] shelf : sheets.get(s)) {
                y += shelf[1];
            }
            if (y + l <= sheetLength) {
                sheets.get(s).add(new int[] {y, l, w});
                return new int[] {s, 0, y};
            }
        }
        throw new AssertionError();
    }

    int sheets() {
        return laid().get(pieces.size())[0];
    }

    int netAt(int fold, char what) {
        index(noFold(fold));
        illegal("sxy".indexOf(what) < 0);
        return laid().get(fold)["sxy".indexOf(what)];
    }

    int plates(int adds) {
        illegal(adds < 0 || adds > 99);
        List<int[]> places = laid();
        int plates = 0;
        for (int sheet = 0; sheet < places.get(pieces.size())[0]; sheet++) {
            Set<Integer> had = new TreeSet<>();
            Set<Integer> printed = new TreeSet<>();
            for (Layer layer : layers) {
                if (places.get(layer.strip / 4)[0] == sheet) {
                    had.add(layer.colour);
                    printed.add(layer.colour + adds);
                }
            }
            if (adds > 0) {
                printed.removeAll(had);
            }
            plates += printed.size();
        }
        return plates;
    }

    int setGlue(int minutes) {
        illegal(minutes < 0 || minutes > 99);
        int before = glue;
        glue = minutes;
        return before;
    }

    private int takes(int fold) {
        return (pieces.get(fold).high - pieces.get(fold).low) / 10 + 1;
    }

    private Set<Integer> needs(int fold) {
        Piece p = pieces.get(fold);
        Set<Integer> needs = new TreeSet<>();
        if (p.crease > 0) {
            needs.add((p.crease + 1) / 2 - 1);
        }
        for (int n = 0; n < pieces.size(); n++) {
            Piece q = pieces.get(n);
            boolean under = n != fold && q.crease == p.crease && q.a <= p.a && q.b <= p.b
                    && Math.min(p.high, q.high) - Math.max(p.low, q.low) >= 1;
            if (under && (q.a < p.a || q.b < p.b || n < fold)) {
                needs.add(n);
            }
        }
        return needs;
    }

    private void gather(int fold, Set<Integer> into) {
        for (int n : needs(fold)) {
            if (into.add(n)) {
                gather(n, into);
            }
        }
    }

    private int waiters(int fold) {
        int number = 0;
        for (int n = 0; n < pieces.size(); n++) {
            Set<Integer> all = new HashSet<>();
            gather(n, all);
            number += all.contains(fold) ? 1 : 0;
        }
        return number;
    }

    /** The order, minute by minute: pairs of a fold and when it was begun. */
    private List<int[]> glued() {
        int[] waiters = new int[pieces.size()];
        for (int n = 0; n < waiters.length; n++) {
            waiters[n] = waiters(n);
        }
        List<int[]> order = new ArrayList<>();
        int[] dry = new int[pieces.size()];
        boolean[] done = new boolean[pieces.size()];
        int busyTill = 0;
        for (int minute = 0; order.size() < pieces.size(); minute++) {
            if (minute < busyTill) {
                continue;
            }
            int best = -1;
            for (int n = 0; n < pieces.size(); n++) {
                boolean free = !done[n];
                for (int need : needs(n)) {
                    free &= done[need] && dry[need] <= minute;
                }
                if (free && (best < 0 || waiters[n] > waiters[best])) {
                    best = n;
                }
            }
            if (best >= 0) {
                order.add(new int[] {best, minute});
                done[best] = true;
                busyTill = minute + takes(best);
                dry[best] = busyTill + glue;
            }
        }
        return order;
    }

    int orderAt(int index) {
        missing(index < 0 || index >= pieces.size());
        return glued().get(index)[0];
    }

    int begunAt(int fold) {
        index(noFold(fold));
        for (int[] at : glued()) {
            if (at[0] == fold) {
                return at[1];
            }
        }
        throw new AssertionError();
    }

    int waiting(int fold) {
        index(noFold(fold));
        return waiters(fold);
    }

    int makingTime() {
        int last = 0;
        for (int[] at : glued()) {
            last = Math.max(last, at[1] + takes(at[0]));
        }
        return last;
    }

    private int greatest(int stations) {
        List<Integer> times = new ArrayList<>();
        for (int[] at : glued()) {
            times.add(takes(at[0]));
        }
        int[][] least = new int[stations + 1][times.size() + 1];
        for (int upTo = 1; upTo <= times.size(); upTo++) {
            least[0][upTo] = 1_000_000;
        }
        for (int k = 1; k <= stations; k++) {
            for (int upTo = 1; upTo <= times.size(); upTo++) {
                least[k][upTo] = least[k - 1][upTo];
                int mine = 0;
                for (int from = upTo - 1; from >= 0; from--) {
                    mine += times.get(from);
                    least[k][upTo] = Math.min(least[k][upTo], Math.max(mine, least[k - 1][from]));
                }
            }
        }
        return least[stations][times.size()];
    }

    int balance(int stations) {
        illegal(stations < 1 || stations > 9);
        return greatest(stations);
    }

    int copies(int stations, int minutes) {
        illegal(stations < 1 || stations > 9 || minutes < 1 || minutes > 9999);
        unsupported(pieces.isEmpty());
        int time = 0;
        for (int n = 0; n < pieces.size(); n++) {
            time += takes(n);
        }
        int further = greatest(stations);
        int copies = 0;
        while (time <= minutes) {
            copies++;
            time += further;
        }
        return copies;
    }

    /** For those who draw calls: how long so many copies take. */
    int minutesFor(int stations, int copies) {
        int time = (copies - 1) * greatest(stations);
        for (int n = 0; n < pieces.size(); n++) {
            time += takes(n);
        }
        return time;
    }

    int setPaper(int w) {
        illegal(w < 100 || w > 400);
        int before = weight;
        weight = w;
        return before;
    }

    private int torn() {
        int torn = 0;
        for (Piece p : pieces) {
            torn += p.tired >= 20000 ? 1 : 0;
        }
        return torn;
    }

    private void tire(Piece p, int step) {
        if (p.tired < 20000) {
            int once = step * weight / 100;
            p.tired += once;
            for (int[] arm : p.arms) {
                p.tired += arm == null ? 0 : once;
            }
        }
    }

    int open(int step, int times) {
        illegal(step < 1 || step > 18 || times < 1 || times > 9999);
        unsupported(!begun);
        for (int n = 0; n < times; n++) {
            for (Piece p : pieces) {
                tire(p, step);
            }
        }
        return torn();
    }

    int tired(int fold) {
        index(noFold(fold));
        return pieces.get(fold).tired;
    }

    int lasts(int fold, int step) {
        index(noFold(fold));
        illegal(step < 1 || step > 18);
        Piece p = pieces.get(fold);
        unsupported(p.tired >= 20000);
        int before = p.tired;
        int times = -1;
        while (p.tired < 20000) {
            tire(p, step);
            times++;
        }
        p.tired = before;
        return times;
    }

    int mend(int fold) {
        index(noFold(fold));
        Piece p = pieces.get(fold);
        unsupported(p.tired < 20000 || p.mends == 3);
        p.tired /= 2;
        return ++p.mends;
    }

    int wish(int i, int j, int low, int high) {
        illegal(i < 1 || i > 400 || j < 1 || j > 400);
        unsupported(!begun || low < 0 || high > height || low >= high);
        int there = pieces.size();
        if (there < 24) {
            for (int c = 0; c <= 2 * there; c++) {
                if (tried(c, i, j, low, high)) {
                    return 1;
                }
            }
        }
        if (there < 23) {
            for (int c = 0; c <= 2 * there; c++) {
                if (triedTwo(c, i, j, low, high)) {
                    return 2;
                }
            }
        }
        throw new NoSuchElementException();
    }

    private boolean tried(int c, int i, int j, int low, int high) {
        int[] of = crease(c);
        if (!holds(c, i - of[0], j - of[1], low, high)) {
            return false;
        }
        put(c, i - of[0], j - of[1], low, high);
        if (good()) {
            return true;
        }
        pieces.remove(pieces.size() - 1);
        return false;
    }

    private boolean triedTwo(int c, int i, int j, int low, int high) {
        int[] of = crease(c);
        for (int a = 10; a <= of[2]; a += 10) {
            for (int b = 10; b <= of[3]; b += 10) {
                if (holds(c, a, b, low, high)) {
                    int first = put(c, a, b, low, high);
                    if (tried(2 * first + 1, i, j, low, high) || tried(2 * first + 2, i, j, low, high)) {
                        return true;
                    }
                    pieces.remove(first);
                }
            }
        }
        return false;
    }

    int restore(int crease, int both, int mark, boolean left, int low, int high) {
        index(noCrease(crease));
        long rest = (long) both - mark;
        illegal(rest < 1 || rest > 1000);
        return left ? fold(crease, mark, (int) rest, low, high) : fold(crease, (int) rest, mark, low, high);
    }

    char forChild(int years) {
        illegal(years < 0 || years > 99);
        unsupported(!begun);
        if (!good()) {
            return 'g';
        }
        boolean small = false;
        boolean stretched = false;
        for (Piece p : pieces) {
            small |= netWidth(p) < 32 && netLength(p) < 32;
            for (int[] arm : p.arms) {
                stretched |= arm != null && arm[0] > 3 * (arm[2] - arm[1]);
            }
        }
        return small && years < 3 ? 'p' : stretched && years < 6 ? 'a' : 'y';
    }

    int folds() {
        return pieces.size();
    }

    long paper() {
        long sum = 0;
        for (Piece p : pieces) {
            sum += netWidth(p) * netLength(p);
        }
        return sum;
    }

    long scene(int step) {
        illegal(step < 0 || step > 18);
        long sum = 0;
        for (Bar bar : bars()) {
            int[] end = stand(bar, bar.length, step);
            sum += (long) (bar.number + 1) * (end[0] + end[1]);
        }
        return sum;
    }

    float tornShare() {
        if (pieces.isEmpty()) {
            throw new ArithmeticException();
        }
        return (float) torn() / pieces.size();
    }

    double meanLength() {
        if (bars().isEmpty()) {
            throw new ArithmeticException();
        }
        double sum = 0;
        for (Bar bar : bars()) {
            sum += bar.length;
        }
        return sum / bars().size();
    }

    boolean isSound() {
        return true;
    }
}
