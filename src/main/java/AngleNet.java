import java.util.Arrays;

/**
 * Nets of thirds with told angles. ../shared/DOC.md says what each call answers; the words in capital letters in the
 * comments here are the document's.
 *
 * <p>All rows are made in the constructor and used again, because all calls of a run live in one room.
 */
public final class AngleNet {
    public static final int NONE = -1;

    private static final int NOTHING = -1000000;
    private static final int NO_SUCH = -2;
    private static final int FULL = -3;
    private static final int FAULTY = -4;
    private static final int MAY_NOT = -5;
    private static final int EMPTY = -6;
    private static final int BEYOND = -7;
    private static final int UNLIKE = -8;

    private static final int MOST_TAPE = 1600;
    private static final int FED = 20;
    private static final int MOST_POSTS = 10;
    private static final int MOST_THIRDS = 18;
    private static final int MOST_FLIPS = 99;
    private static final int MOST_ANGLE = 3600;
    private static final int MOST_CORNER = 360;
    private static final int MOST_WEIGHT = 360;
    private static final int ROUND_TURN = 360;
    private static final int PLAIN_SUM = 180;
    private static final int MOST_SUM = 540;
    private static final int MOST_PLACE = 99;
    private static final int MOST_BEND = 9999;
    private static final int IMAGES = 3;
    private static final int SLOTS = 4;
    private static final int WIDTHS = 4;
    private static final int MOST_NUMBERS = 60;
    private static final int MOST_DRAWN = 40;
    private static final int MOST_SEED = 2000000000;
    private static final long MOST_SUMMAND = 1000000000000L;

    private final Tape tape;
    private final Net now;
    // FLIPS in thought are done here, so that the NET stays.
    private final Net thought;
    private final Net[] images;
    private final boolean[] kept;
    private final Row[] slots;
    private final Shape shape;
    private final Laying laying;
    private final Currents currents;

    public AngleNet() {
        tape = new Tape();
        now = new Net();
        thought = new Net();
        images = new Net[IMAGES];
        kept = new boolean[IMAGES];
        for (int k = 0; k < IMAGES; k++) {
            images[k] = new Net();
        }
        slots = new Row[SLOTS];
        for (int s = 0; s < SLOTS; s++) {
            slots[s] = new Row();
        }
        shape = new Shape();
        laying = new Laying();
        currents = new Currents();
    }

    public int feed(int a, int b, int c, int d, int e) {
        if (tape.length + FED > MOST_TAPE) {
            return NONE;
        }
        tape.append(a);
        tape.append(b);
        tape.append(c);
        tape.append(d);
        tape.append(e);
        return tape.length;
    }

    public int end(int n) {
        if (n < 0 || n > tape.length) {
            return NONE;
        }
        tape.length = n;
        return n;
    }

    public int net() {
        if (!tape.readAll()) {
            return FAULTY;
        }
        tape.length = 0;
        now.copyFrom(tape.draft);
        return now.lines;
    }

    public int fault(int what) {
        if (what == 0) {
            return tape.fault;
        }
        return what == 1 ? tape.place : NONE;
    }

    public int third(int third, int k) {
        if (!now.isThird(third) || k < 0 || k > 3) {
            return NO_SUCH;
        }
        return k == 3 ? now.sums[third] : now.corners[3 * third + k];
    }

    public int post(int post, int what) {
        if (!now.isPost(post)) {
            return NO_SUCH;
        }
        switch (what) {
            case 0:
                return now.angles[post];
            case 1:
                return now.xs[post];
            case 2:
                return now.ys[post];
            case 3:
                return now.circles[post];
            case 4:
                return now.thirdsAt(post);
            case 5:
                return now.sidesAt(post);
            default:
                return NO_SUCH;
        }
    }

    public int side(int p, int q) {
        if (!now.isPost(p) || !now.isPost(q) || p == q) {
            return NO_SUCH;
        }
        return now.shared[MOST_POSTS * p + q];
    }

    public int sides(int i) {
        return now.sideNumbered(i);
    }

    public int surface(int what) {
        if (!now.isThere()) {
            return NO_SUCH;
        }
        switch (what) {
            case 0:
                return shape.euler(now);
            case 1:
                return shape.isGood(now) ? 1 : 0;
            case 2:
                return shape.parts(now);
            case 3:
                return shape.isTwoSided(now) ? 1 : 0;
            case 4:
                return shape.rimSides(now);
            case 5:
                return shape.isGood(now) ? shape.rings(now) : NONE;
            case 6:
                return shape.handles(now);
            default:
                return NO_SUCH;
        }
    }

    public int round(int post, int i) {
        if (!now.isPost(post)) {
            return NO_SUCH;
        }
        if (!shape.isGood(now)) {
            return NONE;
        }
        return shape.beside(now, post, i);
    }

    public int over() {
        if (!now.isThere()) {
            return NOTHING;
        }
        int more = 0;
        for (int p = 0; p < now.posts; p++) {
            if (now.angles[p] != NONE) {
                more += now.angles[p];
            } else if (now.thirdsAt(p) > 0) {
                return NOTHING;
            }
        }
        for (int t = 0; t < now.thirds; t++) {
            more -= now.sums[t];
        }
        return more;
    }

    public int can() {
        if (!now.isThere()) {
            return NO_SUCH;
        }
        return laying.barring(now) == NONE ? 1 : 0;
    }

    public int bars(int what) {
        if (!now.isThere() || what < 0 || what > 1) {
            return NO_SUCH;
        }
        int bar = laying.barring(now);
        if (bar == NONE) {
            return NONE;
        }
        return what == 0 ? bar / 10 : bar % 10;
    }

    public int range(int third, int k, int what) {
        if (!now.isThird(third) || k < 0 || k > 2 || what < 0 || what > 1) {
            return NO_SUCH;
        }
        return laying.cornerBound(now, third, now.corners[3 * third + k], what == 1);
    }

    public int tells(int post, int n) {
        if (!now.isPost(post) || n < 0 || n > MOST_ANGLE) {
            return NO_SUCH;
        }
        int was = now.angles[post];
        now.angles[post] = n == 0 ? NONE : n;
        return was;
    }

    public int free(int post, int what) {
        if (!now.isPost(post) || what < 0 || what > 1 || now.thirdsAt(post) == 0) {
            return NO_SUCH;
        }
        return laying.angleBound(now, post, what == 1);
    }

    public int turn(int a, int b, int c) {
        if (!now.hasPlace(a) || !now.hasPlace(b) || !now.hasPlace(c) || a == b || a == c || b == c) {
            return NOTHING;
        }
        return Places.turning(now, a, b, c);
    }

    public int inside(int a, int b, int c, int d) {
        if (!now.hasPlace(d) || d == a || d == b || d == c) {
            return NOTHING;
        }
        int turning = turn(a, b, c);
        if (turning == NOTHING || turning == 0) {
            return NOTHING;
        }
        return Places.insideCircle(now, a, b, c, d);
    }

    public int may(int p, int q) {
        if (!now.isSide(p, q)) {
            return NO_SUCH;
        }
        return Flips.standing(now, p, q);
    }

    public int flip(int p, int q) {
        if (!now.isSide(p, q)) {
            return NO_SUCH;
        }
        if (!Flips.isAllowed(now, p, q)) {
            return MAY_NOT;
        }
        if (now.done >= MOST_FLIPS) {
            return FULL;
        }
        return flipAnew(p, q);
    }

    private int flipAnew(int p, int q) {
        int made = Flips.apply(now, p, q);
        now.remembered = now.done;
        return made;
    }

    public int illegal() {
        if (!now.isThere()) {
            return NO_SUCH;
        }
        return Flips.firstIllegal(now);
    }

    public int legal(int n) {
        if (!now.isThere() || n < 1 || n > MOST_FLIPS) {
            return NO_SUCH;
        }
        for (int made = 0; made < n; made++) {
            int side = now.done < MOST_FLIPS ? Flips.firstIllegal(now) : NONE;
            if (side == NONE) {
                return made;
            }
            flipAnew(side / MOST_POSTS, side % MOST_POSTS);
        }
        return n;
    }

    public int undo() {
        return Flips.takeBack(now) ? 1 : 0;
    }

    public int redo() {
        return Flips.applyAgain(now) ? 1 : 0;
    }

    public int flips(int seed, int n) {
        int sides = now.sideCount();
        if (seed < 0 || seed > MOST_SEED || n < 1 || n > MOST_DRAWN || sides == 0) {
            return NO_SUCH;
        }
        long x = seed;
        int made = 0;
        for (int i = 0; i < n; i++) {
            x = (1103515245L * x + 12345L) % 2147483648L;
            int side = now.sideNumbered((int) (x / 65536L % sides));
            int p = side / MOST_POSTS;
            int q = side % MOST_POSTS;
            if (side != NONE && now.done < MOST_FLIPS && Flips.isAllowed(now, p, q)) {
                flipAnew(p, q);
                made++;
            }
        }
        return made;
    }

    public int weigh(int p, int q, int n) {
        if (!now.isSide(p, q) || n < 0 || n > MOST_WEIGHT) {
            return NO_SUCH;
        }
        int was = now.weights[MOST_POSTS * p + q];
        now.putWeight(p, q, n);
        return was;
    }

    public int inscribed() {
        if (!now.isThere()) {
            return NO_SUCH;
        }
        if (!shape.isBall(now)) {
            return 1;
        }
        if (Body.badSide(now) != NONE) {
            return 2;
        }
        if (Body.badPost(now) != NONE) {
            return 3;
        }
        return Body.badSet(now) != NONE ? 4 : 0;
    }

    public int hinders(int what) {
        if (!now.isThere() || what < 0 || what > 2) {
            return NO_SUCH;
        }
        if (!shape.isBall(now)) {
            return NONE;
        }
        switch (what) {
            case 0:
                return Body.badSide(now);
            case 1:
                return Body.badPost(now);
            default:
                return Body.badSet(now);
        }
    }

    public int cut(int set) {
        if (!now.isThere() || set < 0 || set >= 1 << now.posts) {
            return NO_SUCH;
        }
        return Body.weightBetween(now, set);
    }

    public long trees() {
        if (!now.isThere()) {
            return NO_SUCH;
        }
        if (shape.parts(now) != 1) {
            return 0;
        }
        int used = shape.usedPosts(now);
        int any = lowestBit(used);
        return currents.solve(now, used, any, any);
    }

    public long height(int from, int to, int post) {
        if (!now.isPost(post) || !hasFlow(from, to)) {
            return NO_SUCH;
        }
        int part = shape.partOf(now, from);
        if ((part >> post & 1) == 0) {
            return NO_SUCH;
        }
        currents.solve(now, part, from, to);
        return currents.heights[post];
    }

    private boolean hasFlow(int from, int to) {
        if (!now.isPost(from) || !now.isPost(to) || from == to) {
            return false;
        }
        return (shape.partOf(now, from) >> to & 1) != 0;
    }

    public long flow(int from, int to, int what) {
        if (!hasFlow(from, to) || what < 0 || what > 2) {
            return NO_SUCH;
        }
        long all = currents.solve(now, shape.partOf(now, from), from, to);
        if (what == 0) {
            return all;
        }
        return what == 1 ? currents.divisor(now) : currents.idleSides(now);
    }

    public long through(int from, int to, int p, int q) {
        if (!hasFlow(from, to) || !now.isSide(p, q)) {
            return NOTHING;
        }
        int part = shape.partOf(now, from);
        if ((part >> p & 1) == 0) {
            return NOTHING;
        }
        currents.solve(now, part, from, to);
        long divisor = currents.divisor(now);
        if (divisor == 0) {
            return NOTHING;
        }
        return (currents.heights[p] - currents.heights[q]) / divisor;
    }

    public int fourth(int third, int what) {
        if (!now.isThird(third) || what < 0 || what > 1) {
            return NOTHING;
        }
        int root = Circles.root(now, third);
        if (root == NONE) {
            return NOTHING;
        }
        int together = Circles.together(now, third);
        return what == 0 ? together + 2 * root : together - 2 * root;
    }

    public int whole() {
        if (!now.isThere()) {
            return NO_SUCH;
        }
        int bits = 0;
        for (int t = 0; t < now.thirds; t++) {
            if (Circles.root(now, t) != NONE) {
                bits |= 1 << t;
            }
        }
        return bits;
    }

    public int judge(int slot) {
        if (!isSlot(slot) || !now.isThere()) {
            return NO_SUCH;
        }
        Row row = slots[slot];
        if (!row.made) {
            return EMPTY;
        }
        thought.copyFrom(now);
        thought.forgetFlips();
        for (int i = 0; i < row.length; i++) {
            if (!flipInThought(row.numbers[i])) {
                return i;
            }
        }
        return row.length;
    }

    private boolean flipInThought(long pair) {
        if (pair < 0 || pair >= MOST_POSTS * MOST_POSTS) {
            return false;
        }
        int p = (int) pair / MOST_POSTS;
        int q = (int) pair % MOST_POSTS;
        if (!thought.isSide(p, q) || !Flips.isAllowed(thought, p, q)) {
            return false;
        }
        return Flips.apply(thought, p, q) != NONE;
    }

    private static boolean isSlot(int slot) {
        return slot >= 0 && slot < SLOTS;
    }

    public int laid(int slot) {
        if (!isSlot(slot) || !now.isThere()) {
            return NO_SUCH;
        }
        Row row = slots[slot];
        if (!row.made) {
            return EMPTY;
        }
        if (row.length != 3 * now.thirds) {
            return BEYOND;
        }
        int third = row.wrongThird(now);
        if (third != NONE) {
            return 100 + third;
        }
        int post = row.wrongPost(now);
        if (post != NONE) {
            return 200 + post;
        }
        int corner = row.wrongCorner(now);
        return corner != NONE ? 300 + corner : 0;
    }

    public int count(int what) {
        switch (what) {
            case 0:
                return now.posts;
            case 1:
                return now.thirds;
            case 2:
                return now.sideCount();
            case 3:
                return now.lines;
            case 4:
                return tape.length;
            case 5:
                return now.done;
            case 6:
                return now.remembered - now.done;
            case 7:
                return now.least;
            case 8:
                return now.most;
            case 9:
                return now.placedPosts();
            case 10:
                return slotsInUse();
            default:
                return NONE;
        }
    }

    private int slotsInUse() {
        int used = 0;
        for (int s = 0; s < SLOTS; s++) {
            used += slots[s].made ? 1 : 0;
        }
        return used;
    }

    public int keep(int k) {
        if (k < 0 || k >= IMAGES) {
            return NO_SUCH;
        }
        images[k].copyFrom(now);
        kept[k] = true;
        return 0;
    }

    public int back(int k) {
        if (k < 0 || k >= IMAGES) {
            return NO_SUCH;
        }
        if (!kept[k]) {
            return EMPTY;
        }
        now.copyFrom(images[k]);
        return 0;
    }

    public int row(int slot, int width, int n) {
        if (!isSlot(slot) || width < 0 || width >= WIDTHS || n > MOST_NUMBERS) {
            return NO_SUCH;
        }
        if (n < 0) {
            return FULL;
        }
        slots[slot].begin(width, n);
        return 0;
    }

    public int write(int slot, int i, long v) {
        if (!isSlot(slot)) {
            return NO_SUCH;
        }
        Row row = slots[slot];
        if (!row.made) {
            return EMPTY;
        }
        if (i < 0 || i >= row.length) {
            return BEYOND;
        }
        row.put(i, v);
        return 0;
    }

    public int paste(int slot, int i, int to, int k, int n) {
        if (!isSlot(slot) || !isSlot(to)) {
            return NO_SUCH;
        }
        Row source = slots[slot];
        Row target = slots[to];
        if (!source.made || !target.made) {
            return EMPTY;
        }
        if (source.width != target.width) {
            return UNLIKE;
        }
        if (!source.reaches(i, n) || !target.reaches(k, n)) {
            return BEYOND;
        }
        System.arraycopy(source.numbers, i, target.numbers, k, n);
        return 0;
    }

    /** The number of the lowest bit that is set; 32 of none. */
    private static int lowestBit(int bits) {
        for (int i = 0; i < 32; i++) {
            if ((bits >> i & 1) != 0) {
                return i;
            }
        }
        return 32;
    }

    /** The order of sets: the fewest POSTS, then the least bits. */
    private static boolean isLesser(int set, int than) {
        int more = Integer.bitCount(set) - Integer.bitCount(than);
        return more < 0 || more == 0 && set < than;
    }

    private static int signOf(long v) {
        if (v == 0) {
            return 0;
        }
        return v > 0 ? 1 : -1;
    }

    /** The NET as it stands, with what is done and undone: just what an IMAGE keeps. No POSTS: there is no NET. */
    static final class Net {
        int posts;
        int thirds;
        int lines;
        int least;
        int most;
        final int[] corners = new int[3 * MOST_THIRDS];
        final int[] sums = new int[MOST_THIRDS];
        final int[] angles = new int[MOST_POSTS];
        final int[] xs = new int[MOST_POSTS];
        final int[] ys = new int[MOST_POSTS];
        final int[] circles = new int[MOST_POSTS];
        // Pairs of POSTS stand in both orders, so that no reader has to sort them.
        final int[] weights = new int[MOST_POSTS * MOST_POSTS];
        final int[] shared = new int[MOST_POSTS * MOST_POSTS];
        // FLIPS that are done stand first, those that can be done again behind them.
        final int[] history = new int[MOST_FLIPS * Flips.FIELDS];
        int done;
        int remembered;

        void clear() {
            posts = 0;
            thirds = 0;
            lines = 0;
            least = 0;
            most = 0;
            Arrays.fill(angles, NONE);
            Arrays.fill(xs, NONE);
            Arrays.fill(ys, NONE);
            Arrays.fill(circles, NONE);
            Arrays.fill(weights, 0);
            Arrays.fill(shared, 0);
            forgetFlips();
        }

        void begin(int howMany) {
            posts = howMany;
            least = 1;
            most = MOST_CORNER;
        }

        void forgetFlips() {
            done = 0;
            remembered = 0;
        }

        void copyFrom(Net other) {
            posts = other.posts;
            thirds = other.thirds;
            lines = other.lines;
            least = other.least;
            most = other.most;
            done = other.done;
            remembered = other.remembered;
            System.arraycopy(other.corners, 0, corners, 0, corners.length);
            System.arraycopy(other.sums, 0, sums, 0, sums.length);
            System.arraycopy(other.angles, 0, angles, 0, angles.length);
            System.arraycopy(other.xs, 0, xs, 0, xs.length);
            System.arraycopy(other.ys, 0, ys, 0, ys.length);
            System.arraycopy(other.circles, 0, circles, 0, circles.length);
            System.arraycopy(other.weights, 0, weights, 0, weights.length);
            System.arraycopy(other.shared, 0, shared, 0, shared.length);
            System.arraycopy(other.history, 0, history, 0, history.length);
        }

        boolean isThere() {
            return posts > 0;
        }

        boolean isPost(int p) {
            return p >= 0 && p < posts;
        }

        boolean isThird(int t) {
            return t >= 0 && t < thirds;
        }

        boolean isSide(int p, int q) {
            return isPost(p) && isPost(q) && p != q && shared[MOST_POSTS * p + q] > 0;
        }

        boolean isRim(int p, int q) {
            return isPost(p) && isPost(q) && shared[MOST_POSTS * p + q] == 1;
        }

        boolean hasPlace(int p) {
            return isPost(p) && xs[p] != NONE;
        }

        /** The POSTS of a THIRD as bits. */
        int postsOf(int t) {
            return 1 << corners[3 * t] | 1 << corners[3 * t + 1] | 1 << corners[3 * t + 2];
        }

        boolean hasPost(int t, int p) {
            return (postsOf(t) >> p & 1) != 0;
        }

        /** Whether three POSTS can be one THIRD more: no SIDE of three, and no THIRD twice. */
        boolean takesThird(int a, int b, int c) {
            int set = 1 << a | 1 << b | 1 << c;
            for (int t = 0; t < thirds; t++) {
                if (postsOf(t) == set) {
                    return false;
                }
            }
            return shared[MOST_POSTS * a + b] < 2
                    && shared[MOST_POSTS * b + c] < 2
                    && shared[MOST_POSTS * a + c] < 2;
        }

        void putThird(int t, int a, int b, int c, int sum) {
            corners[3 * t] = a;
            corners[3 * t + 1] = b;
            corners[3 * t + 2] = c;
            sums[t] = sum;
            shareSides(t, 1);
        }

        void liftThird(int t) {
            shareSides(t, -1);
        }

        private void shareSides(int t, int by) {
            for (int k = 0; k < 3; k++) {
                int p = corners[3 * t + k];
                int q = corners[3 * t + (k + 1) % 3];
                shared[MOST_POSTS * p + q] += by;
                shared[MOST_POSTS * q + p] += by;
            }
        }

        void putWeight(int p, int q, int n) {
            weights[MOST_POSTS * p + q] = n;
            weights[MOST_POSTS * q + p] = n;
        }

        int thirdsAt(int p) {
            int found = 0;
            for (int t = 0; t < thirds; t++) {
                found += hasPost(t, p) ? 1 : 0;
            }
            return found;
        }

        int sidesAt(int p) {
            int found = 0;
            for (int q = 0; q < posts; q++) {
                found += isSide(p, q) ? 1 : 0;
            }
            return found;
        }

        int sideCount() {
            int ends = 0;
            for (int p = 0; p < posts; p++) {
                ends += sidesAt(p);
            }
            return ends / 2;
        }

        int sideNumbered(int i) {
            int ahead = 0;
            for (int p = 0; p < posts; p++) {
                for (int q = p + 1; q < posts; q++) {
                    if (isSide(p, q)) {
                        if (ahead == i) {
                            return MOST_POSTS * p + q;
                        }
                        ahead++;
                    }
                }
            }
            return NONE;
        }

        /** The first THIRD from a number on that has both POSTS. */
        int thirdOn(int p, int q, int first) {
            int both = 1 << p | 1 << q;
            for (int t = Math.max(0, first); t < thirds; t++) {
                if ((postsOf(t) & both) == both) {
                    return t;
                }
            }
            return NONE;
        }

        /** The POST of a THIRD that is neither of two others of it. */
        int otherPost(int t, int p, int q) {
            return lowestBit(postsOf(t) & ~(1 << p | 1 << q));
        }

        int placedPosts() {
            int bits = 0;
            for (int p = 0; p < posts; p++) {
                bits |= xs[p] != NONE ? 1 << p : 0;
            }
            return bits;
        }
    }

    /** The TAPE, and how it is read as a NET, up to its first FAULT. */
    static final class Tape {
        private static final int END = 0;
        private static final int WORD = 1;
        private static final int NUMBER = 2;
        private static final int SIGN = 3;
        private static final int STRANGE = 4;
        // Above every bound of the document: more digits can't bring a number back into bounds.
        private static final int HUGE = 1000000;

        int length;
        int fault;
        int place = NONE;
        // What is read goes here first, so that a FAULT leaves the NET as it is.
        final Net draft = new Net();
        private final byte[] bytes = new byte[MOST_TAPE];
        private int start;
        private int stop;
        private int kind;
        private int taken;
        private int takenAt;
        private boolean cornerTold;

        void append(int word) {
            for (int shift = 24; shift >= 0 && length < MOST_TAPE; shift -= 8) {
                bytes[length] = (byte) (word >> shift);
                length++;
            }
        }

        /** Whether all of it is a NET; the draft has it then. */
        boolean readAll() {
            draft.clear();
            fault = 0;
            place = NONE;
            stop = 0;
            cornerTold = false;
            advance();
            for (int i = 0; i < MOST_TAPE && kind != END; i++) {
                if (!readLine()) {
                    return false;
                }
                if (kind != SIGN) {
                    return fail(1, start);
                }
                advance();
                draft.lines++;
            }
            return true;
        }

        private boolean fail(int what, int where) {
            fault = what;
            place = where;
            return false;
        }

        /** Goes to the next TOKEN; the end is one, too. */
        private void advance() {
            start = stop;
            while (start < length && isBlank(bytes[start])) {
                start++;
            }
            if (start >= length) {
                kind = END;
                stop = start;
                return;
            }
            kind = kindOf(bytes[start]);
            stop = start + 1;
            while (stop < length && (kind == WORD || kind == NUMBER) && kindOf(bytes[stop]) == kind) {
                stop++;
            }
        }

        private static boolean isBlank(byte b) {
            return b == 32 || b == 10;
        }

        private static int kindOf(byte b) {
            if (b >= 'a' && b <= 'z') {
                return WORD;
            }
            if (b >= '0' && b <= '9') {
                return NUMBER;
            }
            return b == ';' ? SIGN : STRANGE;
        }

        private int valueOfToken() {
            int sum = 0;
            for (int i = start; i < stop; i++) {
                sum = sum < HUGE ? 10 * sum + bytes[i] - '0' : HUGE;
            }
            return sum;
        }

        /** Goes on behind a word, if it stands here. */
        private boolean takeWord(String word) {
            if (kind != WORD || stop - start != word.length()) {
                return false;
            }
            for (int i = 0; i < word.length(); i++) {
                if (bytes[start + i] != word.charAt(i)) {
                    return false;
                }
            }
            advance();
            return true;
        }

        /** Goes on behind a number, but remembers its place: a FAULT may still be told there. */
        private boolean takeNumber(int least, int most) {
            if (kind != NUMBER) {
                return fail(1, start);
            }
            taken = valueOfToken();
            takenAt = start;
            if (taken < least || taken > most) {
                return fail(2, takenAt);
            }
            advance();
            return true;
        }

        private boolean takePost() {
            return takeNumber(0, draft.posts - 1);
        }

        private boolean readLine() {
            int at = start;
            if (draft.lines == 0) {
                return takeWord("posts") ? readPosts() : fail(1, at);
            }
            if (takeWord("third")) {
                return draft.thirds < MOST_THIRDS ? readThird() : fail(3, at);
            }
            if (takeWord("angle")) {
                return readAngle();
            }
            if (takeWord("corner")) {
                return cornerTold ? fail(2, at) : readCorner();
            }
            if (takeWord("weight")) {
                return readWeight();
            }
            if (takeWord("place")) {
                return readPlace();
            }
            return takeWord("circle") ? readCircle() : fail(1, at);
        }

        private boolean readPosts() {
            if (!takeNumber(3, MOST_POSTS)) {
                return false;
            }
            draft.begin(taken);
            return true;
        }

        private boolean readThird() {
            if (!takePost()) {
                return false;
            }
            int a = taken;
            if (!takePost()) {
                return false;
            }
            int b = taken;
            if (b == a) {
                return fail(2, takenAt);
            }
            if (!takePost()) {
                return false;
            }
            int c = taken;
            if (c == a || c == b || !draft.takesThird(a, b, c)) {
                return fail(2, takenAt);
            }
            return readSum(a, b, c);
        }

        private boolean readSum(int a, int b, int c) {
            int sum = PLAIN_SUM;
            if (takeWord("sum")) {
                if (!takeNumber(3, MOST_SUM)) {
                    return false;
                }
                sum = taken;
            }
            draft.putThird(draft.thirds, a, b, c, sum);
            draft.thirds++;
            return true;
        }

        private boolean readAngle() {
            if (!takePost()) {
                return false;
            }
            int p = taken;
            if (!takeNumber(1, MOST_ANGLE)) {
                return false;
            }
            draft.angles[p] = taken;
            return true;
        }

        private boolean readCorner() {
            cornerTold = true;
            if (!takeNumber(0, MOST_CORNER)) {
                return false;
            }
            int least = taken;
            if (!takeWord("to")) {
                return fail(1, start);
            }
            if (!takeNumber(least, MOST_CORNER)) {
                return false;
            }
            draft.least = least;
            draft.most = taken;
            return true;
        }

        private boolean readWeight() {
            if (!takePost()) {
                return false;
            }
            int p = taken;
            if (!takePost()) {
                return false;
            }
            int q = taken;
            if (!draft.isSide(p, q)) {
                return fail(2, takenAt);
            }
            if (!takeNumber(0, MOST_WEIGHT)) {
                return false;
            }
            draft.putWeight(p, q, taken);
            return true;
        }

        private boolean readPlace() {
            if (!takePost()) {
                return false;
            }
            int p = taken;
            if (!takeNumber(0, MOST_PLACE)) {
                return false;
            }
            int x = taken;
            if (!takeNumber(0, MOST_PLACE)) {
                return false;
            }
            draft.xs[p] = x;
            draft.ys[p] = taken;
            return true;
        }

        private boolean readCircle() {
            if (!takePost()) {
                return false;
            }
            int p = taken;
            if (!takeNumber(0, MOST_BEND)) {
                return false;
            }
            draft.circles[p] = taken;
            return true;
        }
    }

    /** What surface a NET is. */
    static final class Shape {
        private final int[] turned = new int[MOST_THIRDS];
        private final int[] queue = new int[MOST_THIRDS];

        int usedPosts(Net net) {
            int used = 0;
            for (int t = 0; t < net.thirds; t++) {
                used |= net.postsOf(t);
            }
            return used;
        }

        int euler(Net net) {
            return Integer.bitCount(usedPosts(net)) - net.sideCount() + net.thirds;
        }

        boolean isGood(Net net) {
            for (int p = 0; p < net.posts; p++) {
                if (!hangsTogether(net, p)) {
                    return false;
                }
            }
            return true;
        }

        /** Grows the first THIRD of a POST by those that share a SIDE at it, as many times as there are THIRDS. */
        private boolean hangsTogether(Net net, int post) {
            int reached = 0;
            int beside = 0;
            for (int pass = 0; pass < net.thirds; pass++) {
                for (int t = 0; t < net.thirds; t++) {
                    int others = net.postsOf(t) & ~(1 << post);
                    if (net.hasPost(t, post) && (reached == 0 || (others & beside) != 0)) {
                        reached |= 1 << t;
                        beside |= others;
                    }
                }
            }
            return Integer.bitCount(reached) == net.thirdsAt(post);
        }

        /** The POSTS that hang together with one by SIDES, as bits; none for a POST that no THIRD has. */
        int partOf(Net net, int post) {
            int part = 0;
            for (int pass = 0; pass <= net.posts; pass++) {
                for (int t = 0; t < net.thirds; t++) {
                    int posts = net.postsOf(t);
                    if ((posts & (part | 1 << post)) != 0) {
                        part |= posts;
                    }
                }
            }
            return part;
        }

        int parts(Net net) {
            int left = usedPosts(net);
            int found = 0;
            for (int p = 0; p < net.posts; p++) {
                if ((left >> p & 1) != 0) {
                    left &= ~partOf(net, p);
                    found++;
                }
            }
            return found;
        }

        boolean isTwoSided(Net net) {
            Arrays.fill(turned, 0);
            for (int t = 0; t < net.thirds; t++) {
                if (turned[t] == 0) {
                    turned[t] = 1;
                    if (!turnOthersFrom(net, t)) {
                        return false;
                    }
                }
            }
            return true;
        }

        private boolean turnOthersFrom(Net net, int first) {
            queue[0] = first;
            int size = 1;
            for (int i = 0; i < size && i < MOST_THIRDS; i++) {
                int t = queue[i];
                for (int u = 0; u < net.thirds; u++) {
                    int due = turned[t] * turnBetween(net, t, u);
                    if (due != 0 && turned[u] == 0 && size < MOST_THIRDS) {
                        turned[u] = due;
                        queue[size] = u;
                        size++;
                    } else if (due != 0 && turned[u] != due) {
                        return false;
                    }
                }
            }
            return true;
        }

        /** 1 if two THIRDS go along the SIDE that they share unlike ways, -1 alike, 0 if they share none. */
        private static int turnBetween(Net net, int t, int u) {
            int common = net.postsOf(t) & net.postsOf(u);
            if (t == u || Integer.bitCount(common) != 2) {
                return 0;
            }
            int p = lowestBit(common);
            int q = lowestBit(common & common - 1);
            return goesAlong(net, t, p, q) == goesAlong(net, u, p, q) ? -1 : 1;
        }

        private static boolean goesAlong(Net net, int t, int p, int q) {
            for (int k = 0; k < 3; k++) {
                if (net.corners[3 * t + k] == p) {
                    return net.corners[3 * t + (k + 1) % 3] == q;
                }
            }
            return false;
        }

        int rimSides(Net net) {
            int found = 0;
            for (int p = 0; p < net.posts; p++) {
                found += Integer.bitCount(rimBeside(net, p));
            }
            return found / 2;
        }

        /** The POSTS that are on a RIM SIDE with one, as bits. */
        private static int rimBeside(Net net, int post) {
            int bits = 0;
            for (int q = 0; q < net.posts; q++) {
                bits |= net.isRim(post, q) ? 1 << q : 0;
            }
            return bits;
        }

        /** Of a GOOD NET each POST is on two SIDES of the RIM or on none: what hangs together by the RIM is a ring. */
        int rings(Net net) {
            int seen = 0;
            int found = 0;
            for (int p = 0; p < net.posts; p++) {
                if ((seen >> p & 1) == 0 && rimBeside(net, p) != 0) {
                    seen |= ringOf(net, p);
                    found++;
                }
            }
            return found;
        }

        private static int ringOf(Net net, int post) {
            int ring = 1 << post;
            for (int pass = 0; pass < net.posts; pass++) {
                for (int q = 0; q < net.posts; q++) {
                    if ((ring >> q & 1) != 0) {
                        ring |= rimBeside(net, q);
                    }
                }
            }
            return ring;
        }

        int handles(Net net) {
            if (parts(net) != 1 || !isGood(net) || !isTwoSided(net)) {
                return NONE;
            }
            return (2 - euler(net) - rings(net)) / 2;
        }

        /** Whether it is such a surface as a body has that can be INSCRIBED. */
        boolean isBall(Net net) {
            return parts(net) == 1 && euler(net) == 2 && rimSides(net) == 0 && isGood(net);
        }

        /** The i-th POST round a POST of a GOOD NET. */
        int beside(Net net, int post, int i) {
            int rim = rimBeside(net, post);
            int first = rim != 0 ? lowestBit(rim) : leastBeside(net, post);
            if (i < 0 || i >= net.sidesAt(post) || first == NONE) {
                return NONE;
            }
            int at = first;
            int by = firstThird(net, post, first);
            for (int step = 0; step < i && by != NONE; step++) {
                at = net.otherPost(by, post, at);
                int lesser = net.thirdOn(post, at, 0);
                by = lesser == by ? net.thirdOn(post, at, by + 1) : lesser;
            }
            return at;
        }

        private static int leastBeside(Net net, int post) {
            for (int q = 0; q < net.posts; q++) {
                if (net.isSide(post, q)) {
                    return q;
                }
            }
            return NONE;
        }

        private static int firstThird(Net net, int post, int beside) {
            int t = net.thirdOn(post, beside, 0);
            int u = t == NONE ? NONE : net.thirdOn(post, beside, t + 1);
            if (u == NONE) {
                return t;
            }
            return net.otherPost(t, post, beside) < net.otherPost(u, post, beside) ? t : u;
        }
    }

    /**
     * Whether CORNERS can be LAID, by sets of POSTS alone: a flow from THIRDS to POSTS with bounds exists just if no
     * set BARS it (Hoffman), and the same sets bound each CORNER and each angle from both sides.
     *
     * <p>It goes through all sets of some POSTS, from each to the next by one POST that comes or goes, because then
     * only the THIRDS of that POST have to be counted anew.
     */
    static final class Laying {
        private final int[] members = new int[MOST_POSTS];
        private final int[] postsOf = new int[MOST_THIRDS];
        private final int[] cornersIn = new int[MOST_THIRDS];
        private int size;
        private int set;
        private int most;
        private int least;
        private int asked;

        static int told(Net net) {
            int bits = 0;
            for (int p = 0; p < net.posts; p++) {
                bits |= net.angles[p] != NONE ? 1 << p : 0;
            }
            return bits;
        }

        /** Begins with the empty set of these POSTS: how many sets they have. */
        private int begin(Net net, int all) {
            size = 0;
            for (int p = 0; p < net.posts; p++) {
                if ((all >> p & 1) != 0) {
                    members[size] = p;
                    size++;
                }
            }
            set = 0;
            most = 0;
            least = 0;
            asked = 0;
            for (int t = 0; t < net.thirds; t++) {
                postsOf[t] = net.postsOf(t);
                cornersIn[t] = 0;
                most += mostOf(net, t, 0);
                least += leastOf(net, t, 0);
            }
            return 1 << size;
        }

        /** Goes to the set of a step, from that of the step before. */
        private void goTo(Net net, int step) {
            int member = lowestBit(step);
            if (member < 0 || member >= size) {
                return;
            }
            int post = members[member];
            int by = (set >> post & 1) == 0 ? 1 : -1;
            set ^= 1 << post;
            asked += by * net.angles[post];
            move(net, post, by);
        }

        private void move(Net net, int post, int by) {
            for (int t = 0; t < net.thirds; t++) {
                if ((postsOf[t] >> post & 1) != 0) {
                    int k = cornersIn[t];
                    most += mostOf(net, t, k + by) - mostOf(net, t, k);
                    least += leastOf(net, t, k + by) - leastOf(net, t, k);
                    cornersIn[t] = k + by;
                }
            }
        }

        /** The greatest that k CORNERS of a THIRD can have together. */
        private static int mostOf(Net net, int third, int k) {
            return Math.min(net.most * k, net.sums[third] - net.least * (3 - k));
        }

        /** The least that k CORNERS of a THIRD must have together. */
        private static int leastOf(Net net, int third, int k) {
            return Math.max(net.least * k, net.sums[third] - net.most * (3 - k));
        }

        /** Which way the set BARS it: 1, 2, or 0. */
        private int way() {
            if (asked > most) {
                return 1;
            }
            return asked < least ? 2 : 0;
        }

        /** What BARS it, 10 times the set and the way; NONE: nothing does. */
        int barring(Net net) {
            int sets = begin(net, told(net));
            int best = NONE;
            for (int step = 0; step < sets; step++) {
                goTo(net, step);
                if (way() != 0 && (best == NONE || isLesser(set, best / 10))) {
                    best = 10 * set + way();
                }
            }
            return best;
        }

        /** The least or the greatest of a CORNER; NONE: they can't be LAID. */
        int cornerBound(Net net, int third, int post, boolean greatest) {
            int sets = begin(net, told(net));
            int best = greatest ? net.most : net.least;
            for (int step = 0; step < sets; step++) {
                goTo(net, step);
                if (way() != 0) {
                    return NONE;
                }
                if (greatest) {
                    best = Math.min(best, mostForCorner(net, third, post));
                } else {
                    best = Math.max(best, leastForCorner(net, third, post));
                }
            }
            return best;
        }

        /** With its POST in the set, what the least of all others there leaves it; else what the set does without. */
        private int mostForCorner(Net net, int third, int post) {
            int k = cornersIn[third];
            if ((set >> post & 1) != 0) {
                return asked - (least - leastOf(net, third, k)) - net.least * (k - 1);
            }
            return most - mostOf(net, third, k) + net.sums[third] - net.least * (2 - k) - asked;
        }

        private int leastForCorner(Net net, int third, int post) {
            int k = cornersIn[third];
            if ((set >> post & 1) != 0) {
                return asked - (most - mostOf(net, third, k)) - net.most * (k - 1);
            }
            return least - leastOf(net, third, k) + net.sums[third] - net.most * (2 - k) - asked;
        }

        /** The least or the greatest angle of a POST, whatever is told of it; NONE: they can't be LAID by any. */
        int angleBound(Net net, int post, boolean greatest) {
            int sets = begin(net, told(net) & ~(1 << post));
            int low = 1;
            int high = MOST_ANGLE;
            for (int step = 0; step < sets; step++) {
                goTo(net, step);
                if (way() != 0) {
                    return NONE;
                }
                move(net, post, 1);
                low = Math.max(low, least - asked);
                high = Math.min(high, most - asked);
                move(net, post, -1);
            }
            if (low > high) {
                return NONE;
            }
            return greatest ? high : low;
        }
    }

    /** What follows from places alone; all POSTS here have one. */
    static final class Places {
        static int turning(Net net, int a, int b, int c) {
            return (net.xs[b] - net.xs[a]) * (net.ys[c] - net.ys[a]) - (net.xs[c] - net.xs[a]) * (net.ys[b] - net.ys[a]);
        }

        /** 1, 0, -1: d is inside of the circle through a, b, c (on no line), on it, outside. */
        static int insideCircle(Net net, int a, int b, int c, int d) {
            long lifted = farness(net, a, d) * turning(net, d, b, c)
                    - farness(net, b, d) * turning(net, d, a, c)
                    + farness(net, c, d) * turning(net, d, a, b);
            return signOf(lifted) * signOf(turning(net, a, b, c));
        }

        private static long farness(Net net, int p, int q) {
            long x = net.xs[p] - net.xs[q];
            long y = net.ys[p] - net.ys[q];
            return x * x + y * y;
        }
    }

    /** SIDES FLIPPED, done and undone. */
    static final class Flips {
        /** What history holds of a FLIP: its SIDE and weight, then of each THIRD its number, POSTS and sum. */
        static final int FIELDS = 13;
        private static final int WEIGHT = 2;
        private static final int LESSER = 3;
        private static final int GREATER = 8;

        /** Whether a SIDE may be FLIPPED. */
        static boolean isAllowed(Net net, int p, int q) {
            int t = net.thirdOn(p, q, 0);
            int u = t == NONE ? NONE : net.thirdOn(p, q, t + 1);
            if (u == NONE) {
                return false;
            }
            return !net.isSide(net.otherPost(t, p, q), net.otherPost(u, p, q));
        }

        /** 1 it may be FLIPPED, 2 it is KEEN, 4 ILLEGAL, together. */
        static int standing(Net net, int p, int q) {
            if (!isAllowed(net, p, q)) {
                return 0;
            }
            int a = Math.min(p, q);
            int b = Math.max(p, q);
            int t = net.thirdOn(a, b, 0);
            int c = net.otherPost(t, a, b);
            int d = net.otherPost(net.thirdOn(a, b, t + 1), a, b);
            if (!net.hasPlace(a) || !net.hasPlace(b) || !net.hasPlace(c) || !net.hasPlace(d)) {
                return 1;
            }
            if (!isKeen(net, a, b, c, d)) {
                return 1;
            }
            return Places.insideCircle(net, a, b, c, d) > 0 ? 7 : 3;
        }

        private static boolean isKeen(Net net, int a, int b, int c, int d) {
            int way = signOf(Places.turning(net, a, b, c));
            return way != 0
                    && signOf(Places.turning(net, b, a, d)) == way
                    && signOf(Places.turning(net, a, d, c)) == way
                    && signOf(Places.turning(net, b, c, d)) == way;
        }

        static int firstIllegal(Net net) {
            for (int p = 0; p < net.posts; p++) {
                for (int q = p + 1; q < net.posts; q++) {
                    if (net.isSide(p, q) && (standing(net, p, q) & 4) != 0) {
                        return MOST_POSTS * p + q;
                    }
                }
            }
            return NONE;
        }

        /** FLIPS a SIDE and writes it behind those that are done: the new SIDE; NONE, if it may not be. */
        static int apply(Net net, int p, int q) {
            if (net.done >= MOST_FLIPS || !isAllowed(net, p, q)) {
                return NONE;
            }
            int a = Math.min(p, q);
            int b = Math.max(p, q);
            int t = net.thirdOn(a, b, 0);
            int u = net.thirdOn(a, b, t + 1);
            int c = Math.min(net.otherPost(t, a, b), net.otherPost(u, a, b));
            int d = Math.max(net.otherPost(t, a, b), net.otherPost(u, a, b));
            int at = FIELDS * net.done;
            net.history[at] = a;
            net.history[at + 1] = b;
            net.history[at + WEIGHT] = net.weights[MOST_POSTS * a + b];
            note(net, at + LESSER, t);
            note(net, at + GREATER, u);
            net.liftThird(t);
            net.liftThird(u);
            net.putThird(t, a, c, d, PLAIN_SUM);
            net.putThird(u, b, c, d, PLAIN_SUM);
            net.putWeight(a, b, 0);
            net.putWeight(c, d, 0);
            net.done++;
            return MOST_POSTS * c + d;
        }

        private static void note(Net net, int at, int third) {
            net.history[at] = third;
            System.arraycopy(net.corners, 3 * third, net.history, at + 1, 3);
            net.history[at + 4] = net.sums[third];
        }

        /** Undoes the latest FLIP that is done. */
        static boolean takeBack(Net net) {
            if (net.done <= 0) {
                return false;
            }
            net.done--;
            int at = FIELDS * net.done;
            int t = net.history[at + LESSER];
            // Both THIRDS end with the new SIDE's POSTS.
            net.putWeight(net.corners[3 * t + 1], net.corners[3 * t + 2], 0);
            net.liftThird(t);
            net.liftThird(net.history[at + GREATER]);
            restore(net, at + LESSER);
            restore(net, at + GREATER);
            net.putWeight(net.history[at], net.history[at + 1], net.history[at + WEIGHT]);
            return true;
        }

        private static void restore(Net net, int at) {
            int[] from = net.history;
            net.putThird(from[at], from[at + 1], from[at + 2], from[at + 3], from[at + 4]);
        }

        /** Does the latest again that was undone; its SIDE may bear another weight by now, so all is noted anew. */
        static boolean applyAgain(Net net) {
            if (net.done >= net.remembered) {
                return false;
            }
            int at = FIELDS * net.done;
            return apply(net, net.history[at], net.history[at + 1]) != NONE;
        }
    }

    /** What bars a body from being INSCRIBED by weights. */
    static final class Body {
        /** The first SIDE whose weight is not 1 .. 179. */
        static int badSide(Net net) {
            for (int p = 0; p < net.posts; p++) {
                for (int q = p + 1; q < net.posts; q++) {
                    int weight = net.weights[MOST_POSTS * p + q];
                    if (net.isSide(p, q) && (weight < 1 || weight > 179)) {
                        return MOST_POSTS * p + q;
                    }
                }
            }
            return NONE;
        }

        static int badPost(Net net) {
            for (int p = 0; p < net.posts; p++) {
                if (weightBetween(net, 1 << p) != ROUND_TURN) {
                    return p;
                }
            }
            return NONE;
        }

        /** The least set by its order alone: of two that are each other's others it is the lesser one, too. */
        static int badSet(Net net) {
            int best = NONE;
            int set = 0;
            int between = 0;
            for (int step = 1; step < 1 << net.posts; step++) {
                int post = lowestBit(step);
                between += gainBy(net, set, post);
                set ^= 1 << post;
                int inSet = Integer.bitCount(set);
                boolean counts = inSet >= 2 && net.posts - inSet >= 2;
                if (counts && between <= ROUND_TURN && (best == NONE || isLesser(set, best))) {
                    best = set;
                }
            }
            return best;
        }

        /** How much more there is between a set and its others when a POST comes to it or goes from it. */
        private static int gainBy(Net net, int set, int post) {
            int gain = 0;
            for (int q = 0; q < net.posts; q++) {
                int weight = net.weights[MOST_POSTS * post + q];
                gain += (set >> q & 1) == (set >> post & 1) ? weight : -weight;
            }
            return gain;
        }

        /** Weights of SIDES between a set of POSTS and all others; a pair that is no SIDE has the weight 0. */
        static int weightBetween(Net net, int set) {
            int together = 0;
            for (int p = 0; p < net.posts; p++) {
                for (int q = 0; q < net.posts && (set >> p & 1) != 0; q++) {
                    together += (set >> q & 1) == 0 ? net.weights[MOST_POSTS * p + q] : 0;
                }
            }
            return together;
        }
    }

    /** TREES and FLOW, by Kirchhoff's equations in whole numbers. */
    static final class Currents {
        private static final int WIDE = MOST_POSTS + 1;

        final long[] heights = new long[MOST_POSTS];
        private final long[] cells = new long[MOST_POSTS * WIDE];
        private final int[] postOf = new int[MOST_POSTS];
        private int size;

        /**
         * Finds all heights of the FLOW within a PART (0 in others), and answers how much flows: its TREES, for the
         * height of the first is the number of TREES in which it is cut from the other.
         */
        long solve(Net net, int part, int from, int to) {
            Arrays.fill(heights, 0);
            layOut(net, part, from, to);
            long all = clearColumns();
            for (int i = 0; i < size; i++) {
                heights[postOf[i]] = cells[WIDE * i + size];
            }
            return all;
        }

        /** For each POST of the PART but the last: what goes out is what comes in, but for the first. */
        private void layOut(Net net, int part, int from, int to) {
            size = 0;
            for (int p = 0; p < net.posts; p++) {
                if ((part >> p & 1) != 0 && p != to) {
                    postOf[size] = p;
                    size++;
                }
            }
            for (int i = 0; i < size; i++) {
                for (int j = 0; j < size; j++) {
                    cells[WIDE * i + j] = net.isSide(postOf[i], postOf[j]) ? -1 : 0;
                }
                cells[WIDE * i + i] = net.sidesAt(postOf[i]);
                cells[WIDE * i + size] = postOf[i] == from ? 1 : 0;
            }
        }

        /** Keeps to whole numbers: each cell is a determinant of some of the first cells, so the divisions are even. */
        private long clearColumns() {
            long before = 1;
            for (int k = 0; k < size; k++) {
                long pivot = cells[WIDE * k + k];
                if (pivot == 0) {
                    return 0;
                }
                for (int i = 0; i < size; i++) {
                    if (i != k) {
                        clearRow(i, k, before);
                    }
                }
                before = pivot;
            }
            return before;
        }

        private void clearRow(int i, int k, long before) {
            if (before == 0) {
                return;
            }
            long pivot = cells[WIDE * k + k];
            long factor = cells[WIDE * i + k];
            for (int j = 0; j <= size; j++) {
                long crossed = pivot * cells[WIDE * i + j] - factor * cells[WIDE * k + j];
                cells[WIDE * i + j] = crossed / before;
            }
        }

        /** The greatest common divisor of what goes through SIDES. */
        long divisor(Net net) {
            long common = 0;
            for (int p = 0; p < net.posts; p++) {
                for (int q = p + 1; q < net.posts; q++) {
                    if (net.isSide(p, q)) {
                        common = commonDivisor(common, Math.abs(heights[p] - heights[q]));
                    }
                }
            }
            return common;
        }

        private static long commonDivisor(long a, long b) {
            long x = a;
            long y = b;
            // Each two steps halve the lesser, so a long takes under 128 of them.
            for (int step = 0; step < 128 && y != 0; step++) {
                long rest = x % y;
                x = y;
                y = rest;
            }
            return x;
        }

        int idleSides(Net net) {
            int found = 0;
            for (int p = 0; p < net.posts; p++) {
                for (int q = p + 1; q < net.posts; q++) {
                    found += net.isSide(p, q) && heights[p] == heights[q] ? 1 : 0;
                }
            }
            return found;
        }
    }

    /** Circles that touch three. */
    static final class Circles {
        private static final int MOST_ROOT = 17321;

        /** The root of (ab and bc and ca) of a THIRD's circles; NONE, if one has none or it is no whole number. */
        static int root(Net net, int third) {
            int a = net.circles[net.corners[3 * third]];
            int b = net.circles[net.corners[3 * third + 1]];
            int c = net.circles[net.corners[3 * third + 2]];
            if (a == NONE || b == NONE || c == NONE) {
                return NONE;
            }
            int square = a * b + b * c + c * a;
            int low = 0;
            int high = MOST_ROOT;
            for (int step = 0; step < 32 && low < high; step++) {
                int middle = (low + high) / 2;
                if (middle * middle < square) {
                    low = middle + 1;
                } else {
                    high = middle;
                }
            }
            return low * low == square ? low : NONE;
        }

        static int together(Net net, int third) {
            return net.circles[net.corners[3 * third]]
                    + net.circles[net.corners[3 * third + 1]]
                    + net.circles[net.corners[3 * third + 2]];
        }
    }

    /** A SLOT: a row of numbers of one WIDTH, or nothing. */
    static final class Row {
        boolean made;
        int width;
        int length;
        final long[] numbers = new long[MOST_NUMBERS];

        void begin(int ofWidth, int n) {
            made = true;
            width = ofWidth;
            length = n;
            Arrays.fill(numbers, 0);
        }

        void put(int i, long v) {
            switch (width) {
                case 0:
                    numbers[i] = (byte) v;
                    break;
                case 1:
                    numbers[i] = (short) v;
                    break;
                case 2:
                    numbers[i] = (int) v;
                    break;
                default:
                    numbers[i] = v;
                    break;
            }
        }

        /** Whether n numbers from a place on are all in the row. */
        boolean reaches(int from, int n) {
            return from >= 0 && n >= 0 && (long) from + n <= length;
        }

        int wrongThird(Net net) {
            for (int t = 0; t < net.thirds; t++) {
                long sum = 0;
                boolean small = true;
                for (int k = 0; k < 3; k++) {
                    long v = numbers[3 * t + k];
                    small = small && v <= MOST_SUMMAND && v >= -MOST_SUMMAND;
                    sum += v;
                }
                if (!small || sum != net.sums[t]) {
                    return t;
                }
            }
            return NONE;
        }

        int wrongPost(Net net) {
            for (int p = 0; p < net.posts; p++) {
                long sum = 0;
                for (int i = 0; i < 3 * net.thirds; i++) {
                    sum += net.corners[i] == p ? numbers[i] : 0;
                }
                if (net.angles[p] != NONE && sum != net.angles[p]) {
                    return p;
                }
            }
            return NONE;
        }

        int wrongCorner(Net net) {
            for (int i = 0; i < 3 * net.thirds; i++) {
                if (numbers[i] < net.least || numbers[i] > net.most) {
                    return i;
                }
            }
            return NONE;
        }
    }
}
