import java.util.ArrayList;
import java.util.List;
import java.util.Random;

/** Compares answers about drawn NETS with those of other, plainer ways to find them: counting through, and flows. */
public final class OracleTest {
    private static final int NONE = Due.NONE;
    private static final int NOTHING = Due.NOTHING;

    private final Random random;
    private final AngleNet x;
    private final int posts;
    private final List<int[]> thirds = new ArrayList<>();
    private final int[] angles;
    private int least = 1;
    private int most = 360;

    private OracleTest(long seed) {
        random = new Random(seed);
        posts = 3 + random.nextInt(8);
        angles = new int[posts];
        StringBuilder text = new StringBuilder("posts " + posts + ";");
        drawThirds(text, random.nextInt(3) == 0 ? 18 : 1 + random.nextInt(7));
        if (random.nextInt(4) != 0) {
            least = random.nextInt(6);
            most = least + random.nextInt(20);
            text.append("corner ").append(least).append(" to ").append(most).append(';');
        }
        drawAngles(text);
        x = Due.told(text.toString());
        Due.about("seed " + seed + ": " + text);
    }

    public static void main(String[] args) {
        for (long seed = 1; seed <= 1500; seed++) {
            OracleTest test = new OracleTest(seed);
            test.checkSides();
            test.checkSurface();
            test.checkRound();
            test.checkBars();
            if (seed <= 400) {
                test.checkLaying();
            }
            test.checkTrees();
            test.checkFlips();
            test.checkCut();
        }
        for (long seed = 1; seed <= 300; seed++) {
            checkDelaunay(seed);
        }
        for (long seed = 1; seed <= 300; seed++) {
            checkBall(seed);
        }
        checkManyTrees();
        Due.end();
    }

    private void drawThirds(StringBuilder text, int howMany) {
        for (int i = 0; i < 300 && thirds.size() < howMany; i++) {
            int[] t = {random.nextInt(posts), random.nextInt(posts), random.nextInt(posts), 3 + random.nextInt(40)};
            if (fits(t)) {
                thirds.add(t);
                text.append("third ").append(t[0]).append(' ').append(t[1]).append(' ').append(t[2]);
                text.append(" sum ").append(t[3]).append(";");
            }
        }
    }

    private boolean fits(int[] t) {
        if (t[0] == t[1] || t[1] == t[2] || t[0] == t[2]) {
            return false;
        }
        int all = 0;
        for (int[] u : thirds) {
            all += has(u, t[0]) && has(u, t[1]) && has(u, t[2]) ? 1 : 0;
        }
        return all == 0 && on(t[0], t[1]).size() < 2 && on(t[1], t[2]).size() < 2 && on(t[0], t[2]).size() < 2;
    }

    private void drawAngles(StringBuilder text) {
        int[][] guess = new int[thirds.size()][3];
        int[] at = new int[posts];
        for (int t = 0; t < thirds.size(); t++) {
            int rest = thirds.get(t)[3];
            for (int k = 0; k < 3; k++) {
                guess[t][k] = k == 2 ? rest : Math.min(rest, least + random.nextInt(Math.max(1, rest / 2)));
                rest -= guess[t][k];
                at[thirds.get(t)[k]] += guess[t][k];
            }
        }
        for (int p = 0; p < posts; p++) {
            if (random.nextInt(3) != 0 && at[p] > 0) {
                angles[p] = Math.max(1, at[p] + (random.nextInt(5) == 0 ? random.nextInt(9) - 4 : 0));
                text.append("angle ").append(p).append(' ').append(angles[p]).append(';');
            }
        }
    }

    private static boolean has(int[] third, int post) {
        return third[0] == post || third[1] == post || third[2] == post;
    }

    private List<int[]> on(int p, int q) {
        List<int[]> found = new ArrayList<>();
        for (int[] t : thirds) {
            if (has(t, p) && has(t, q)) {
                found.add(t);
            }
        }
        return found;
    }

    private static int other(int[] t, int p, int q) {
        return t[0] + t[1] + t[2] - p - q;
    }

    private boolean used(int p) {
        for (int[] t : thirds) {
            if (has(t, p)) {
                return true;
            }
        }
        return false;
    }

    private List<int[]> sides() {
        List<int[]> found = new ArrayList<>();
        for (int p = 0; p < posts; p++) {
            for (int q = p + 1; q < posts; q++) {
                if (!on(p, q).isEmpty()) {
                    found.add(new int[] {p, q});
                }
            }
        }
        return found;
    }

    private void checkSides() {
        List<int[]> all = sides();
        Due.is("count(2)", x.count(2), all.size());
        for (int i = 0; i < all.size(); i++) {
            Due.is("sides(" + i + ")", x.sides(i), 10 * all.get(i)[0] + all.get(i)[1]);
        }
        Due.is("sides at the end", x.sides(all.size()), NONE);
    }

    // ---- surface

    private static int root(int[] up, int i) {
        int at = i;
        while (up[at] != at) {
            at = up[at];
        }
        return at;
    }

    private boolean good(int p) {
        int n = thirds.size();
        int[] up = new int[n];
        for (int i = 0; i < n; i++) {
            up[i] = i;
        }
        for (int i = 0; i < n; i++) {
            for (int j = 0; j < i; j++) {
                int[] t = thirds.get(i);
                int[] u = thirds.get(j);
                if (has(t, p) && has(u, p)) {
                    for (int q = 0; q < posts; q++) {
                        if (q != p && has(t, q) && has(u, q)) {
                            up[root(up, i)] = root(up, j);
                        }
                    }
                }
            }
        }
        int roots = 0;
        for (int i = 0; i < n; i++) {
            roots += has(thirds.get(i), p) && root(up, i) == i ? 1 : 0;
        }
        return roots <= 1;
    }

    private boolean twoSided() {
        int n = thirds.size();
        if (n > 14) {
            // Turning by hand, one after the other; counting through takes too long.
            return twoSidedByTurning();
        }
        for (int turned = 0; turned < 1 << n; turned++) {
            if (isTurnedWell(turned)) {
                return true;
            }
        }
        return false;
    }

    private boolean isTurnedWell(int turned) {
        boolean[][] along = new boolean[posts][posts];
        for (int i = 0; i < thirds.size(); i++) {
            int[] t = thirds.get(i);
            for (int k = 0; k < 3; k++) {
                int p = t[k];
                int q = t[(k + 1) % 3];
                int from = (turned >> i & 1) == 0 ? p : q;
                int to = from == p ? q : p;
                if (along[from][to]) {
                    return false;
                }
                along[from][to] = true;
            }
        }
        return true;
    }

    private boolean twoSidedByTurning() {
        int n = thirds.size();
        int[] way = new int[n];
        for (int seed = 0; seed < n; seed++) {
            if (way[seed] != 0) {
                continue;
            }
            way[seed] = 1;
            for (int pass = 0; pass < n; pass++) {
                for (int i = 0; i < n; i++) {
                    for (int j = 0; j < n; j++) {
                        int r = relation(thirds.get(i), thirds.get(j));
                        if (i != j && way[i] != 0 && r != 0) {
                            if (way[j] == 0) {
                                way[j] = way[i] * r;
                            } else if (way[j] != way[i] * r) {
                                return false;
                            }
                        }
                    }
                }
            }
        }
        return true;
    }

    private static int relation(int[] t, int[] u) {
        for (int k = 0; k < 3; k++) {
            for (int l = 0; l < 3; l++) {
                if (t[k] == u[l] && t[(k + 1) % 3] == u[(l + 1) % 3]) {
                    return -1;
                }
                if (t[k] == u[(l + 1) % 3] && t[(k + 1) % 3] == u[l]) {
                    return 1;
                }
            }
        }
        return 0;
    }

    private int components(List<int[]> edges) {
        int[] up = new int[posts];
        boolean[] in = new boolean[posts];
        for (int p = 0; p < posts; p++) {
            up[p] = p;
        }
        for (int[] e : edges) {
            in[e[0]] = true;
            in[e[1]] = true;
            up[root(up, e[0])] = root(up, e[1]);
        }
        int found = 0;
        for (int p = 0; p < posts; p++) {
            found += in[p] && up[p] == p ? 1 : 0;
        }
        return found;
    }

    private boolean allGood() {
        for (int p = 0; p < posts; p++) {
            if (!good(p)) {
                return false;
            }
        }
        return true;
    }

    private void checkSurface() {
        int v = 0;
        for (int p = 0; p < posts; p++) {
            v += used(p) ? 1 : 0;
        }
        List<int[]> rim = new ArrayList<>();
        for (int[] s : sides()) {
            if (on(s[0], s[1]).size() == 1) {
                rim.add(s);
            }
        }
        int euler = v - sides().size() + thirds.size();
        boolean good = allGood();
        int rings = good ? components(rim) : NONE;
        int parts = components(sides());
        boolean two = twoSided();
        Due.is("surface(0)", x.surface(0), euler);
        Due.is("surface(1)", x.surface(1), good ? 1 : 0);
        Due.is("surface(2)", x.surface(2), parts);
        Due.is("surface(3)", x.surface(3), two ? 1 : 0);
        Due.is("surface(4)", x.surface(4), rim.size());
        Due.is("surface(5)", x.surface(5), rings);
        int handles = parts == 1 && good && two ? (2 - euler - rings) / 2 : NONE;
        Due.is("surface(6)", x.surface(6), handles);
        Due.holds("handles are whole", handles == NONE || (2 - euler - rings) % 2 == 0 && handles >= 0);
        boolean ball = good && parts == 1 && euler == 2 && rim.isEmpty();
        Due.is("inscribed()", x.inscribed(), ball ? 2 : 1);
    }

    private void checkRound() {
        boolean good = allGood();
        for (int p = 0; p < posts; p++) {
            List<Integer> due = new ArrayList<>();
            if (good && used(p)) {
                walk(p, due);
            }
            for (int i = 0; i < 11; i++) {
                Due.is("round(" + p + ", " + i + ")", x.round(p, i), i < due.size() ? due.get(i) : NONE);
            }
        }
    }

    private void walk(int p, List<Integer> due) {
        int start = NONE;
        for (int want = 1; want <= 2 && start == NONE; want++) {
            for (int q = posts - 1; q >= 0; q--) {
                if (q != p && (want == 1 ? on(p, q).size() == 1 : !on(p, q).isEmpty())) {
                    start = q;
                }
            }
        }
        due.add(start);
        int at = start;
        boolean going = true;
        while (going) {
            int next = 99;
            for (int[] t : on(p, at)) {
                int o = other(t, p, at);
                if (!due.contains(o)) {
                    next = Math.min(next, o);
                }
            }
            going = next != 99;
            if (going) {
                due.add(next);
                at = next;
            }
        }
    }

    // ---- laying

    private void checkBars() {
        int bestSet = NONE;
        int way = NONE;
        for (int set = 0; set < 1 << posts; set++) {
            int w = barOf(set);
            if (w > 0 && (bestSet == NONE || Integer.bitCount(set) < Integer.bitCount(bestSet))) {
                bestSet = set;
                way = w;
            }
        }
        Due.is("bars(0)", x.bars(0), bestSet);
        Due.is("bars(1)", x.bars(1), way);
        Due.is("can()", x.can(), bestSet == NONE ? 1 : 0);
    }

    private int barOf(int set) {
        int asked = 0;
        for (int p = 0; p < posts; p++) {
            if ((set >> p & 1) != 0) {
                if (angles[p] == 0) {
                    return 0;
                }
                asked += angles[p];
            }
        }
        int greatest = 0;
        int must = 0;
        for (int[] t : thirds) {
            int k = (set >> t[0] & 1) + (set >> t[1] & 1) + (set >> t[2] & 1);
            greatest += Math.min(most * k, t[3] - least * (3 - k));
            must += Math.max(least * k, t[3] - most * (3 - k));
        }
        return asked > greatest ? 1 : asked < must ? 2 : 0;
    }

    /** Whether CORNERS can be LAID with bounds of their own, by a flow. */
    private boolean flows(int[][] low, int[][] high, int[] told) {
        int n = thirds.size();
        int source = n + posts;
        int sink = source + 1;
        int start = sink + 1;
        int end = start + 1;
        int[][] room = new int[end + 1][end + 1];
        int must = 0;
        for (int t = 0; t < n; t++) {
            must += bounded(room, source, t, thirds.get(t)[3], thirds.get(t)[3], start, end);
            for (int k = 0; k < 3; k++) {
                if (low[t][k] > high[t][k]) {
                    return false;
                }
                must += bounded(room, t, n + thirds.get(t)[k], low[t][k], high[t][k], start, end);
            }
        }
        for (int p = 0; p < posts; p++) {
            must += bounded(room, n + p, sink, told[p], told[p] == 0 ? 100000 : told[p], start, end);
        }
        room[sink][source] = 1000000;
        return maxFlow(room, start, end) == must;
    }

    private static int bounded(int[][] room, int a, int b, int low, int high, int start, int end) {
        room[a][b] += high - low;
        room[start][b] += low;
        room[a][end] += low;
        return low;
    }

    private static int maxFlow(int[][] room, int from, int to) {
        int n = room.length;
        int all = 0;
        while (true) {
            int[] by = new int[n];
            java.util.Arrays.fill(by, -1);
            by[from] = from;
            int[] queue = new int[n];
            int size = 1;
            queue[0] = from;
            for (int i = 0; i < size; i++) {
                for (int v = 0; v < n; v++) {
                    if (by[v] < 0 && room[queue[i]][v] > 0) {
                        by[v] = queue[i];
                        queue[size++] = v;
                    }
                }
            }
            if (by[to] < 0) {
                return all;
            }
            int more = Integer.MAX_VALUE;
            for (int v = to; v != from; v = by[v]) {
                more = Math.min(more, room[by[v]][v]);
            }
            for (int v = to; v != from; v = by[v]) {
                room[by[v]][v] -= more;
                room[v][by[v]] += more;
            }
            all += more;
        }
    }

    private void checkLaying() {
        int n = thirds.size();
        int[][] low = new int[n][3];
        int[][] high = new int[n][3];
        for (int t = 0; t < n; t++) {
            for (int k = 0; k < 3; k++) {
                low[t][k] = least;
                high[t][k] = most;
            }
        }
        boolean can = flows(low, high, angles);
        Due.is("can() by flow", x.can(), can ? 1 : 0);
        for (int i = 0; i < 4; i++) {
            checkRange(low, high, random.nextInt(n), random.nextInt(3));
        }
        for (int i = 0; i < 2; i++) {
            checkFree(low, high, random.nextInt(posts));
        }
    }

    private void checkRange(int[][] low, int[][] high, int t, int k) {
        int first = NONE;
        int last = NONE;
        for (int v = least; v <= Math.min(most, thirds.get(t)[3]); v++) {
            low[t][k] = v;
            high[t][k] = v;
            if (flows(low, high, angles)) {
                first = first == NONE ? v : first;
                last = v;
            }
        }
        low[t][k] = least;
        high[t][k] = most;
        Due.is("range(" + t + ", " + k + ", 0)", x.range(t, k, 0), first);
        Due.is("range(" + t + ", " + k + ", 1)", x.range(t, k, 1), last);
    }

    private void checkFree(int[][] low, int[][] high, int p) {
        int first = NONE;
        int last = NONE;
        int was = angles[p];
        int highest = 0;
        for (int[] t : thirds) {
            highest += has(t, p) ? t[3] : 0;
        }
        for (int v = 1; v <= highest; v++) {
            angles[p] = v;
            if (flows(low, high, angles)) {
                first = first == NONE ? v : first;
                last = v;
            }
        }
        angles[p] = was;
        Due.is("free(" + p + ", 0)", x.free(p, 0), used(p) ? first : -2);
        Due.is("free(" + p + ", 1)", x.free(p, 1), used(p) ? last : -2);
    }

    // ---- trees

    private void checkTrees() {
        List<int[]> edges = sides();
        if (edges.size() > 15) {
            checkKirchhoff(edges);
            return;
        }
        int from = thirds.get(0)[random.nextInt(3)];
        int to = random.nextInt(posts);
        int parts = components(edges);
        long[] height = new long[posts];
        long trees = 0;
        int v = 0;
        for (int p = 0; p < posts; p++) {
            v += used(p) ? 1 : 0;
        }
        boolean joined = used(to) && to != from && joinedBy(edges, -1, from, to);
        // Within one PART: what others hang by is counted once, as if it were all of their SIDES.
        List<int[]> near = new ArrayList<>();
        for (int[] e : edges) {
            if (joinedBy(edges, -1, from, e[0])) {
                near.add(e);
            }
        }
        int size = 0;
        for (int p = 0; p < posts; p++) {
            size += used(p) && joinedBy(edges, -1, from, p) ? 1 : 0;
        }
        for (int chosen = 0; chosen < 1 << near.size(); chosen++) {
            int bits = Integer.bitCount(chosen);
            if (bits == size - 1 && isForest(near, chosen)) {
                trees++;
            }
            if (bits == size - 2 && joined && isForest(near, chosen) && !joinedBy(near, chosen, from, to)) {
                for (int p = 0; p < posts; p++) {
                    height[p] += joinedBy(near, chosen, from, p) ? 1 : 0;
                }
            }
        }
        Due.is("trees()", x.trees(), parts == 1 ? trees : 0);
        checkFlow(edges, from, to, joined, trees, height);
    }

    private void checkFlow(List<int[]> edges, int from, int to, boolean joined, long trees, long[] height) {
        for (int p = 0; p < posts; p++) {
            boolean there = joined && used(p) && joinedBy(edges, -1, from, p);
            Due.is("height(" + from + ", " + to + ", " + p + ")", x.height(from, to, p), there ? height[p] : -2);
        }
        long common = 0;
        int idle = 0;
        for (int[] e : edges) {
            long through = Math.abs(height[e[0]] - height[e[1]]);
            idle += through == 0 ? 1 : 0;
            common = java.math.BigInteger.valueOf(common).gcd(java.math.BigInteger.valueOf(through)).longValue();
        }
        Due.is("flow(0)", x.flow(from, to, 0), joined ? trees : -2);
        Due.is("flow(1)", x.flow(from, to, 1), joined ? common : -2);
        Due.is("flow(2)", x.flow(from, to, 2), joined ? idle : -2);
        for (int[] e : edges) {
            boolean there = joined && joinedBy(edges, -1, from, e[0]);
            long through = there ? (height[e[0]] - height[e[1]]) / common : NOTHING;
            Due.is("through", x.through(from, to, e[0], e[1]), through);
            Due.is("through, back", x.through(from, to, e[1], e[0]), there ? -through : NOTHING);
        }
    }

    private boolean joinedBy(List<int[]> edges, int chosen, int from, int to) {
        int[] up = new int[posts];
        for (int p = 0; p < posts; p++) {
            up[p] = p;
        }
        for (int i = 0; i < edges.size(); i++) {
            if (chosen == -1 || (chosen >> i & 1) != 0) {
                up[root(up, edges.get(i)[0])] = root(up, edges.get(i)[1]);
            }
        }
        return root(up, from) == root(up, to);
    }

    private boolean isForest(List<int[]> edges, int chosen) {
        int[] up = new int[posts];
        for (int p = 0; p < posts; p++) {
            up[p] = p;
        }
        for (int i = 0; i < edges.size(); i++) {
            if ((chosen >> i & 1) != 0) {
                int a = root(up, edges.get(i)[0]);
                int b = root(up, edges.get(i)[1]);
                if (a == b) {
                    return false;
                }
                up[a] = b;
            }
        }
        return true;
    }

    /** What must hold of a FLOW, where TREES are too many to count through. */
    private void checkKirchhoff(List<int[]> edges) {
        int from = random.nextInt(posts);
        int to = random.nextInt(posts);
        if (from == to || !used(from) || !used(to) || components(edges) != 1) {
            return;
        }
        long all = x.trees();
        Due.is("flow(0)", x.flow(from, to, 0), all);
        for (int p = 0; p < posts; p++) {
            long out = 0;
            for (int[] e : edges) {
                if (e[0] == p || e[1] == p) {
                    out += x.height(from, to, p) - x.height(from, to, e[0] + e[1] - p);
                }
            }
            if (used(p)) {
                Due.is("what goes out at " + p, out, p == from ? all : p == to ? -all : 0);
            }
        }
        Due.is("the other's height", x.height(from, to, to), 0);
    }

    /** The greatest numbers: all pairs of 10 POSTS can't be had by 18 THIRDS, but many. */
    private static void checkManyTrees() {
        Due.about("trees of a sphere of ten");
        StringBuilder text = new StringBuilder("posts 10;");
        for (int i = 0; i < 8; i++) {
            text.append("third 8 ").append(i).append(' ').append((i + 1) % 8).append(';');
            text.append("third 9 ").append(i).append(' ').append((i + 1) % 8).append(';');
        }
        AngleNet x = Due.told(text.toString());
        // A double wheel of 8: 2/2 (a**8 + a**-8 - 2) 8/... is known by the matrix tree theorem; here by BigInteger.
        int[][] m = new int[9][9];
        for (int i = 0; i < 8; i++) {
            m[i][i] = 4;
            m[i][(i + 1) % 8] = -1;
            m[i][(i + 7) % 8] = -1;
            m[i][8] = -1;
            m[8][i] = -1;
        }
        m[8][8] = 8;
        Due.is("trees()", x.trees(), determinant(m));
    }

    private static long determinant(int[][] m) {
        int n = m.length;
        if (n == 1) {
            return m[0][0];
        }
        long sum = 0;
        for (int c = 0; c < n; c++) {
            if (m[0][c] != 0) {
                int[][] less = new int[n - 1][n - 1];
                for (int i = 1; i < n; i++) {
                    for (int j = 0; j < n; j++) {
                        if (j != c) {
                            less[i - 1][j < c ? j : j - 1] = m[i][j];
                        }
                    }
                }
                sum += (c % 2 == 0 ? 1 : -1) * m[0][c] * determinant(less);
            }
        }
        return sum;
    }

    // ---- flips

    private String standing() {
        StringBuilder text = new StringBuilder();
        for (int t = 0; t < thirds.size(); t++) {
            for (int k = 0; k < 4; k++) {
                text.append(x.third(t, k)).append(' ');
            }
        }
        for (int p = 0; p < posts; p++) {
            for (int q = 0; q < p; q++) {
                text.append(x.side(p, q)).append(' ').append(x.cut(1 << p | 1 << q)).append(' ');
            }
        }
        return text.toString();
    }

    private void checkFlips() {
        for (int[] s : sides()) {
            x.weigh(s[0], s[1], random.nextInt(361));
        }
        List<String> stood = new ArrayList<>();
        stood.add(standing());
        for (int i = 0; i < 20; i++) {
            List<int[]> all = sides();
            int[] s = all.get(random.nextInt(all.size()));
            int made = flipHere(s[0], s[1]);
            Due.is("flip(" + s[0] + ", " + s[1] + ")", random.nextBoolean() ? x.flip(s[0], s[1]) : x.flip(s[1], s[0]), made);
            if (made >= 0) {
                stood.add(standing());
            }
            for (int t = 0; t < thirds.size(); t++) {
                for (int k = 0; k < 4; k++) {
                    Due.is("third(" + t + ", " + k + ")", x.third(t, k), thirds.get(t)[k]);
                }
            }
        }
        for (int i = stood.size() - 2; i >= 0; i--) {
            Due.is("undo()", x.undo(), 1);
            Due.holds("stands as it did", standing().equals(stood.get(i)));
        }
        Due.is("undo()", x.undo(), 0);
        for (int i = 1; i < stood.size(); i++) {
            Due.is("redo()", x.redo(), 1);
            Due.holds("stands as it did", standing().equals(stood.get(i)));
        }
        Due.is("redo()", x.redo(), 0);
    }

    private int flipHere(int p, int q) {
        List<int[]> two = on(p, q);
        if (two.size() != 2) {
            return -5;
        }
        int c = other(two.get(0), p, q);
        int d = other(two.get(1), p, q);
        if (!on(c, d).isEmpty()) {
            return -5;
        }
        int i = thirds.indexOf(two.get(0));
        int j = thirds.indexOf(two.get(1));
        thirds.set(i, new int[] {Math.min(p, q), Math.min(c, d), Math.max(c, d), 180});
        thirds.set(j, new int[] {Math.max(p, q), Math.min(c, d), Math.max(c, d), 180});
        return 10 * Math.min(c, d) + Math.max(c, d);
    }

    private void checkCut() {
        int[][] weight = new int[posts][posts];
        for (int[] s : sides()) {
            weight[s[0]][s[1]] = random.nextInt(361);
            x.weigh(s[0], s[1], weight[s[0]][s[1]]);
        }
        int best = NONE;
        for (int set = 0; set < 1 << posts; set++) {
            int between = 0;
            for (int p = 0; p < posts; p++) {
                for (int q = p + 1; q < posts; q++) {
                    between += (set >> p & 1) != (set >> q & 1) ? weight[p][q] : 0;
                }
            }
            Due.is("cut(" + set + ")", x.cut(set), between);
            int n = Integer.bitCount(set);
            if (n >= 2 && posts - n >= 2 && between <= 360 && (best == NONE || n < Integer.bitCount(best))) {
                best = set;
            }
        }
        Due.is("hinders(2)", x.hinders(2), x.inscribed() == 1 ? NONE : best);
    }

    /** A ball made from a tetrahedron by POSTS put into THIRDS and by drawn FLIPS, with drawn weights. */
    private static void checkBall(long seed) {
        Random random = new Random(seed);
        int posts = 4 + random.nextInt(7);
        List<int[]> ball = new ArrayList<>();
        ball.add(new int[] {0, 1, 2});
        ball.add(new int[] {0, 1, 3});
        ball.add(new int[] {0, 2, 3});
        ball.add(new int[] {1, 2, 3});
        for (int p = 4; p < posts; p++) {
            int[] t = ball.remove(random.nextInt(ball.size()));
            ball.add(new int[] {t[0], t[1], p});
            ball.add(new int[] {p, t[1], t[2]});
            ball.add(new int[] {t[2], p, t[0]});
        }
        StringBuilder text = new StringBuilder("posts " + posts + ";");
        for (int[] t : ball) {
            text.append("third ").append(t[0]).append(' ').append(t[1]).append(' ').append(t[2]).append(';');
        }
        Due.about("ball " + seed + ": " + text);
        AngleNet x = Due.told(text.toString());
        for (int i = 0; i < 3; i++) {
            x.flips(random.nextInt(2000000001), 30);
            Due.is("EULER", x.surface(0), 2);
            Due.is("GOOD", x.surface(1), 1);
            Due.is("TWO-SIDED", x.surface(3), 1);
            Due.is("RIM", x.surface(4), 0);
            Due.is("HANDLES", x.surface(6), 0);
            weighBall(x, posts, random, 40 + random.nextInt(160));
        }
    }

    private static void weighBall(AngleNet x, int posts, Random random, int most) {
        int[][] weight = new int[posts][posts];
        int badSide = NONE;
        for (int i = 0; i < x.count(2); i++) {
            int p = x.sides(i) / 10;
            int q = x.sides(i) % 10;
            int w = random.nextInt(30) == 0 ? 0 : 1 + random.nextInt(most);
            weight[p][q] = w;
            weight[q][p] = w;
            x.weigh(p, q, w);
            badSide = badSide == NONE && (w == 0 || w > 179) ? x.sides(i) : badSide;
        }
        int badPost = NONE;
        int badSet = NONE;
        for (int set = 0; set < 1 << posts; set++) {
            int between = 0;
            for (int p = 0; p < posts; p++) {
                for (int q = 0; q < posts; q++) {
                    between += (set >> p & 1) == 1 && (set >> q & 1) == 0 ? weight[p][q] : 0;
                }
            }
            int n = Integer.bitCount(set);
            if (n == 1 && between != 360 && badPost == NONE) {
                badPost = Integer.numberOfTrailingZeros(set);
            }
            if (n > 1 && posts - n > 1 && between <= 360 && (badSet == NONE || n < Integer.bitCount(badSet))) {
                badSet = set;
            }
        }
        Due.is("hinders(0)", x.hinders(0), badSide);
        Due.is("hinders(1)", x.hinders(1), badPost);
        Due.is("hinders(2)", x.hinders(2), badSet);
        int why = badSide != NONE ? 2 : badPost != NONE ? 3 : badSet != NONE ? 4 : 0;
        Due.is("inscribed()", x.inscribed(), why);
    }

    /** A drawn set of places, told as a fan round a point: legal() ends, and no POST is inside of a THIRD's circle. */
    private static void checkDelaunay(long seed) {
        Random random = new Random(seed);
        int n = 4 + random.nextInt(6);
        StringBuilder text = new StringBuilder("posts " + (n + 1) + ";");
        // Rays in order round the middle; their lengths are drawn, so that the rim need not be convex.
        for (int i = 0; i < n; i++) {
            double turn = 2 * Math.PI * i / n;
            double far = 15 + random.nextInt(34);
            text.append("place ").append(i).append(' ').append((int) (50 + far * Math.cos(turn)));
            text.append(' ').append((int) (50 + far * Math.sin(turn))).append(';');
            text.append("third ").append(n).append(' ').append(i).append(' ').append((i + 1) % n).append(';');
        }
        text.append("place ").append(n).append(" 50 50;");
        Due.about("Delaunay " + text);
        AngleNet x = Due.told(text.toString());
        long area = area(x);
        int made = x.legal(99);
        Due.holds("it ends", made < 99);
        Due.is("illegal()", x.illegal(), NONE);
        Due.is("the area stays", area(x), area);
        for (int i = 0; i < x.count(2); i++) {
            int side = x.sides(i);
            Due.holds("no SIDE is ILLEGAL", (x.may(side / 10, side % 10) & 4) == 0);
        }
    }

    private static long area(AngleNet x) {
        long sum = 0;
        for (int t = 0; t < x.count(1); t++) {
            sum += Math.abs(x.turn(x.third(t, 0), x.third(t, 1), x.third(t, 2)));
        }
        return sum;
    }
}
