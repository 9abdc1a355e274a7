import java.util.Arrays;
import java.util.NoSuchElementException;

/**
 * A desk for networks of at most ten nodes and twenty-four lines, and for drawings of them with straight lines.
 * Sets of nodes or lines are ints, read as bits by number.
 */
public final class PlanarSketch {
    public static final int NONE = -1;

    private static final int NODES = 10;
    private static final int LINES = 24;
    private static final int FAR = 30;

    /** A node of the web alone, beyond those of the desk: it stands in the face that around() asks for. */
    private static final int HUB = NODES;
    private static final int WEB_NODES = NODES + 1;

    private int nodeBits;
    private int lineBits;
    private final int[] lessEnd = new int[LINES];
    private final int[] moreEnd = new int[LINES];
    private final Web web = new Web();
    private final PlaneTest planeTest = new PlaneTest();
    private final Palette palette = new Palette();
    private final Desk desk = new Desk();

    public PlanarSketch() {
        nodeBits = 0;
        lineBits = 0;
    }

    public int node(int i) throws IndexOutOfBoundsException, IllegalStateException {
        if (!isNodeNumber(i)) {
            throw new IndexOutOfBoundsException("no such node");
        }
        if (has(nodeBits, i)) {
            throw new IllegalStateException("the node is there");
        }
        nodeBits |= 1 << i;
        return Integer.bitCount(nodeBits);
    }

    public int line(int i, int j) throws NoSuchElementException, IllegalArgumentException, IllegalStateException {
        if (!nodeIsThere(i) || !nodeIsThere(j)) {
            throw new NoSuchElementException("a node is not there");
        }
        if (i == j) {
            throw new IllegalArgumentException("the nodes are the same");
        }
        int number = freeNumber();
        if (number == NONE || joined(i, j)) {
            throw new IllegalStateException("no line can come");
        }
        lessEnd[number] = Math.min(i, j);
        moreEnd[number] = Math.max(i, j);
        lineBits |= 1 << number;
        return number;
    }

    public int cut(int l) throws NoSuchElementException {
        if (!lineIsThere(l)) {
            throw new NoSuchElementException("the line is not there");
        }
        lineBits &= ~(1 << l);
        return Integer.bitCount(lineBits);
    }

    public int drop(int i) throws NoSuchElementException {
        if (!nodeIsThere(i)) {
            throw new NoSuchElementException("the node is not there");
        }
        int gone = linesOf(i);
        lineBits &= ~gone;
        nodeBits &= ~(1 << i);
        return Integer.bitCount(gone);
    }

    public int nodes() {
        return nodeBits;
    }

    public int lines() {
        return lineBits;
    }

    public int end(int l, int which) throws NoSuchElementException, IndexOutOfBoundsException {
        if (!lineIsThere(l)) {
            throw new NoSuchElementException("the line is not there");
        }
        if (which != 0 && which != 1) {
            throw new IndexOutOfBoundsException("a line has the ends 0 and 1");
        }
        return which == 0 ? lessEnd[l] : moreEnd[l];
    }

    public boolean drawable() {
        return canDraw(lineBits);
    }

    public int witness() {
        int kept = forbiddenLines();
        if (kept == 0) {
            return 0;
        }
        return Integer.bitCount(cornersOf(kept)) == 5 ? 5 : 33;
    }

    public int pattern() {
        return forbiddenLines();
    }

    public int corner(int k) throws IllegalStateException, IndexOutOfBoundsException {
        int kept = forbiddenLines();
        if (kept == 0) {
            throw new IllegalStateException("the network is drawable");
        }
        int corners = cornersOf(kept);
        if (k < 0 || k >= Integer.bitCount(corners)) {
            throw new IndexOutOfBoundsException("no such corner");
        }
        if (Integer.bitCount(corners) == 5) {
            return nthOf(corners, k);
        }
        int facing = cornersFacingTheLeast(kept, corners);
        return k < 3 ? nthOf(corners & ~facing, k) : nthOf(facing, k - 3);
    }

    public int faces() throws IllegalStateException {
        if (!canDraw(lineBits)) {
            throw new IllegalStateException("the network is not drawable");
        }
        // Euler's formula, for a network in any number of pieces
        return Integer.bitCount(lineBits) - Integer.bitCount(nodeBits) + countPieces(nodeBits, lineBits) + 1;
    }

    public boolean could(int i, int j) throws NoSuchElementException, IllegalArgumentException {
        if (!nodeIsThere(i) || !nodeIsThere(j)) {
            throw new NoSuchElementException("a node is not there");
        }
        if (i == j || joined(i, j)) {
            throw new IllegalArgumentException("no line can be asked for there");
        }
        return canDrawWith(i, j);
    }

    public int room() {
        int pairs = 0;
        for (int i = 0; i < NODES; i++) {
            for (int j = i + 1; j < NODES; j++) {
                if (has(nodeBits, i) && has(nodeBits, j) && !joined(i, j) && canDrawWith(i, j)) {
                    pairs++;
                }
            }
        }
        return pairs;
    }

    public boolean around(int set) throws NoSuchElementException {
        if ((set & ~nodeBits) != 0) {
            throw new NoSuchElementException("a node is not there");
        }
        spin(lineBits);
        for (int i = 0; i < NODES; i++) {
            if (has(set, i)) {
                web.join(HUB, i);
            }
        }
        return planeTest.passes(web);
    }

    public int spare() {
        if (canDraw(lineBits)) {
            return 0;
        }
        if (oneIsEnough()) {
            return 1;
        }
        return twoAreEnough() ? 2 : 3;
    }

    public int pieces() {
        return countPieces(nodeBits, lineBits);
    }

    public boolean bridge(int l) throws NoSuchElementException {
        if (!lineIsThere(l)) {
            throw new NoSuchElementException("the line is not there");
        }
        return countPieces(nodeBits, lineBits & ~(1 << l)) > countPieces(nodeBits, lineBits);
    }

    public boolean hinge(int i) throws NoSuchElementException {
        if (!nodeIsThere(i)) {
            throw new NoSuchElementException("the node is not there");
        }
        return countPieces(nodeBits & ~(1 << i), lineBits) > countPieces(nodeBits, lineBits);
    }

    public int colours() {
        spin(lineBits);
        return palette.paintLeast(web, nodeBits);
    }

    public int colour(int i) throws NoSuchElementException {
        if (!nodeIsThere(i)) {
            throw new NoSuchElementException("the node is not there");
        }
        spin(lineBits);
        palette.paintLeast(web, nodeBits);
        return palette.shadeOf(i);
    }

    public int place(int i, int x, int y) throws IndexOutOfBoundsException, IllegalArgumentException {
        if (!isNodeNumber(i)) {
            throw new IndexOutOfBoundsException("no such node");
        }
        if (x < 0 || x > FAR || y < 0 || y > FAR) {
            throw new IllegalArgumentException("no such place");
        }
        desk.put(i, x, y);
        return wrongMeetings();
    }

    public int at(int i, int axis) throws IndexOutOfBoundsException {
        if (!isNodeNumber(i) || axis != 0 && axis != 1) {
            throw new IndexOutOfBoundsException("no such node or axis");
        }
        return axis == 0 ? desk.across(i) : desk.upward(i);
    }

    public boolean meets(int l, int m) throws NoSuchElementException, IllegalArgumentException {
        if (!lineIsThere(l) || !lineIsThere(m)) {
            throw new NoSuchElementException("a line is not there");
        }
        if (l == m) {
            throw new IllegalArgumentException("the lines are the same");
        }
        return meetWrongly(l, m);
    }

    public int wrong() {
        int count = 0;
        for (int i = 0; i < NODES; i++) {
            if (has(nodeBits, i) && liesWrongly(i)) {
                count++;
            }
        }
        return count;
    }

    public boolean flat() {
        return wrongMeetings() == 0 && wrong() == 0;
    }

    public int box() {
        return nodeBits == 0 ? 0 : 2 * desk.boxArea(nodeBits) + 1;
    }

    private static boolean has(int set, int number) {
        return (set >> number & 1) != 0;
    }

    /** The n-th number (from 0) of a set; NONE when it has not so many. */
    private static int nthOf(int set, int n) {
        int before = 0;
        for (int i = 0; i < NODES; i++) {
            if (has(set, i)) {
                if (before == n) {
                    return i;
                }
                before++;
            }
        }
        return NONE;
    }

    private static boolean isNodeNumber(int i) {
        return i >= 0 && i < NODES;
    }

    private boolean nodeIsThere(int i) {
        return isNodeNumber(i) && has(nodeBits, i);
    }

    private boolean lineIsThere(int l) {
        return l >= 0 && l < LINES && has(lineBits, l);
    }

    private int freeNumber() {
        for (int l = 0; l < LINES; l++) {
            if (!has(lineBits, l)) {
                return l;
            }
        }
        return NONE;
    }

    private boolean isEnd(int i, int l) {
        return lessEnd[l] == i || moreEnd[l] == i;
    }

    private int linesOf(int i) {
        int found = 0;
        for (int l = 0; l < LINES; l++) {
            if (has(lineBits, l) && isEnd(i, l)) {
                found |= 1 << l;
            }
        }
        return found;
    }

    private boolean joined(int i, int j) {
        return (linesOf(i) & linesOf(j)) != 0;
    }

    /** Makes the web out of these lines alone. */
    private void spin(int chosen) {
        web.clear();
        for (int l = 0; l < LINES; l++) {
            if (has(chosen, l)) {
                web.join(lessEnd[l], moreEnd[l]);
            }
        }
    }

    private boolean canDraw(int chosen) {
        spin(chosen);
        return planeTest.passes(web);
    }

    private boolean canDrawWith(int i, int j) {
        spin(lineBits);
        web.join(i, j);
        return planeTest.passes(web);
    }

    /** The lines of the pattern; none when the network is drawable. */
    private int forbiddenLines() {
        if (canDraw(lineBits)) {
            return 0;
        }
        int kept = lineBits;
        for (int l = 0; l < LINES; l++) {
            int others = kept & ~(1 << l);
            if (!canDraw(others)) {
                kept = others;
            }
        }
        return kept;
    }

    private int cornersOf(int kept) {
        spin(kept);
        int corners = 0;
        for (int i = 0; i < NODES; i++) {
            if (web.degree(i) >= 3) {
                corners |= 1 << i;
            }
        }
        return corners;
    }

    /** Of six corners the three to which a way without another corner leads from the least one. */
    private int cornersFacingTheLeast(int kept, int corners) {
        spin(kept);
        int least = nthOf(corners, 0);
        if (least == NONE) {
            return 0;
        }
        return web.reach(least, ~corners) & corners & ~(1 << least);
    }

    private boolean oneIsEnough() {
        for (int l = 0; l < LINES; l++) {
            if (has(lineBits, l) && canDraw(lineBits & ~(1 << l))) {
                return true;
            }
        }
        return false;
    }

    private boolean twoAreEnough() {
        for (int l = 0; l < LINES; l++) {
            for (int m = l + 1; m < LINES; m++) {
                if (has(lineBits, l) && has(lineBits, m) && canDraw(lineBits & ~(1 << l) & ~(1 << m))) {
                    return true;
                }
            }
        }
        return false;
    }

    private int countPieces(int among, int chosen) {
        spin(chosen);
        int seen = 0;
        int count = 0;
        for (int i = 0; i < NODES; i++) {
            if (has(among, i) && !has(seen, i)) {
                seen |= web.reach(i, among) & among;
                count++;
            }
        }
        return count;
    }

    private int wrongMeetings() {
        int count = 0;
        for (int l = 0; l < LINES; l++) {
            for (int m = l + 1; m < LINES; m++) {
                if (has(lineBits, l) && has(lineBits, m) && meetWrongly(l, m)) {
                    count++;
                }
            }
        }
        return count;
    }

    private boolean meetWrongly(int l, int m) {
        int shared = isEnd(lessEnd[l], m) ? lessEnd[l] : isEnd(moreEnd[l], m) ? moreEnd[l] : NONE;
        if (shared == NONE) {
            return desk.touch(lessEnd[l], moreEnd[l], lessEnd[m], moreEnd[m]);
        }
        return desk.sameWay(shared, otherEnd(l, shared), otherEnd(m, shared));
    }

    private int otherEnd(int l, int i) {
        return lessEnd[l] == i ? moreEnd[l] : lessEnd[l];
    }

    private boolean liesWrongly(int i) {
        for (int j = 0; j < NODES; j++) {
            if (j != i && has(nodeBits, j) && desk.samePlace(i, j)) {
                return true;
            }
        }
        for (int l = 0; l < LINES; l++) {
            if (has(lineBits, l) && !isEnd(i, l) && desk.liesOn(i, lessEnd[l], moreEnd[l])) {
                return true;
            }
        }
        return false;
    }

    /** Which nodes are joined to which: the shape of a network, without the numbers of its lines. */
    private static final class Web {
        private final int[] near = new int[WEB_NODES];

        void clear() {
            Arrays.fill(near, 0);
        }

        void join(int a, int b) {
            near[a] |= 1 << b;
            near[b] |= 1 << a;
        }

        int neighbours(int a) {
            return near[a];
        }

        int degree(int a) {
            return Integer.bitCount(near[a]);
        }

        /** All nodes to which a way leads from the start whose inner nodes are all passable, and the start. */
        int reach(int start, int passable) {
            int seen = 1 << start;
            int fresh = seen;
            for (int round = 0; round < WEB_NODES && fresh != 0; round++) {
                int next = 0;
                for (int a = 0; a < WEB_NODES; a++) {
                    if (has(fresh, a)) {
                        next |= near[a];
                    }
                }
                next &= ~seen;
                seen |= next;
                fresh = next & passable;
            }
            return seen;
        }
    }

    /**
     * Whether a web can be drawn without crossings, by the left-right criterion of de Fraysseix and Rosenstiehl.
     *
     * A walk into the depth makes each line a branch (to a new node) or a back line (to a node further up the walk).
     * The returns of a branch or back line that leaves a node are the back lines that lead over it to above that node.
     * The web can be drawn just when the back lines can be parted in two sides so that for each two that leave
     * the same node the returns of the one that end below the highest end of the other's lie all on one side,
     * and those of the other that end below the highest end of the one's all on the other side.
     */
    private static final class PlaneTest {
        private static final int UNSEEN = -1;
        private static final int MOST_BACK_LINES = 3 * WEB_NODES - 6;

        private int backLines;
        private boolean clash;
        private final int[] depthOf = new int[WEB_NODES];
        /** The back lines whose upper end has this depth. */
        private final int[] endingAt = new int[WEB_NODES];
        /** By depth: what leaves the node of the walk there, each with its returns and their least depth. */
        private final int[] returns = new int[WEB_NODES * WEB_NODES];
        private final int[] highest = new int[WEB_NODES * WEB_NODES];
        /** The back lines that must lie on the side of this one, and those that must not. */
        private final int[] alike = new int[MOST_BACK_LINES];
        private final int[] opposed = new int[MOST_BACK_LINES];

        boolean passes(Web web) {
            int nodesWithLines = 0;
            int ends = 0;
            for (int a = 0; a < WEB_NODES; a++) {
                ends += web.degree(a);
                nodesWithLines += web.degree(a) > 0 ? 1 : 0;
            }
            if (ends / 2 < 9) {
                // each forbidden pattern has nine lines or more
                return true;
            }
            if (ends / 2 > 3 * nodesWithLines - 6) {
                // more than Euler's formula leaves room for; so the back lines always fit in an int as bits
                return false;
            }
            forgetTheLastWalk();
            for (int a = 0; a < WEB_NODES && !clash; a++) {
                if (depthOf[a] == UNSEEN) {
                    walk(web, a, NONE, 0);
                }
            }
            return !clash;
        }

        private void forgetTheLastWalk() {
            backLines = 0;
            clash = false;
            Arrays.fill(depthOf, UNSEEN);
            Arrays.fill(endingAt, 0);
        }

        /** Walks on from a node; answers the back lines that lead from there or from further down to above it. */
        private int walk(Web web, int a, int from, int depth) {
            if (depth >= WEB_NODES) {
                return 0;
            }
            depthOf[a] = depth;
            int all = 0;
            int leaving = 0;
            for (int b = 0; b < WEB_NODES && !clash; b++) {
                if (b == from || !has(web.neighbours(a), b)) {
                    continue;
                }
                int found = 0;
                if (depthOf[b] == UNSEEN) {
                    found = walk(web, b, a, depth + 1) & ~endingAt[depth];
                } else if (depthOf[b] < depth) {
                    // to a deeper node there is nothing: its back line to here has been counted there
                    found = newBackLine(depthOf[b]);
                }
                if (found != 0) {
                    compareWithEarlier(found, depth, leaving);
                    leaving++;
                    all |= found;
                }
            }
            return all;
        }

        private int newBackLine(int endDepth) {
            if (backLines >= MOST_BACK_LINES) {
                clash = true;
                return 0;
            }
            int bit = 1 << backLines;
            alike[backLines] = bit;
            opposed[backLines] = 0;
            endingAt[endDepth] |= bit;
            backLines++;
            return bit;
        }

        private void compareWithEarlier(int found, int depth, int leaving) {
            int row = depth * WEB_NODES;
            int top = highestEnd(found, depth);
            for (int k = 0; k < leaving; k++) {
                int one = endingBelow(highest[row + k], found);
                int other = endingBelow(top, returns[row + k]);
                if ((one | other) != 0) {
                    partSides(one, other);
                }
            }
            returns[row + leaving] = found;
            highest[row + leaving] = top;
        }

        private int highestEnd(int found, int depth) {
            for (int d = 0; d < depth; d++) {
                if ((found & endingAt[d]) != 0) {
                    return d;
                }
            }
            return depth;
        }

        private int endingBelow(int depth, int found) {
            int left = found;
            for (int d = 0; d <= depth; d++) {
                left &= ~endingAt[d];
            }
            return left;
        }

        /** Asks all of one set to lie on one side, and all of the other set on the other side. */
        private void partSides(int one, int other) {
            int side = 0;
            int across = 0;
            for (int n = 0; n < backLines; n++) {
                int bit = 1 << n;
                if ((one & bit) != 0) {
                    side |= alike[n];
                    across |= opposed[n];
                }
                if ((other & bit) != 0) {
                    side |= opposed[n];
                    across |= alike[n];
                }
            }
            if ((side & across) != 0) {
                clash = true;
            }
            for (int n = 0; n < backLines; n++) {
                int bit = 1 << n;
                if ((side & bit) != 0) {
                    alike[n] = side;
                    opposed[n] = across;
                } else if ((across & bit) != 0) {
                    alike[n] = across;
                    opposed[n] = side;
                }
            }
        }
    }

    /** Finds the least colouring. */
    private static final class Palette {
        private int there;
        private int allowed;
        private final int[] shades = new int[NODES];

        /** Paints the nodes by the least colouring: how many numbers it has. */
        int paintLeast(Web web, int nodesThere) {
            there = nodesThere;
            for (int count = 0; count <= NODES; count++) {
                allowed = count;
                if (paintFrom(web, 0, 0)) {
                    return count;
                }
            }
            return NODES;
        }

        int shadeOf(int i) {
            return shades[i];
        }

        /** Tries the least numbers first, so the first colouring found is the least one. */
        private boolean paintFrom(Web web, int i, int used) {
            if (i >= NODES) {
                return true;
            }
            if (!has(there, i)) {
                return paintFrom(web, i + 1, used);
            }
            // a number that leaves out a smaller unused one never comes first
            for (int c = 0; c <= used && c < allowed; c++) {
                if (isFree(web, c, i)) {
                    shades[i] = c;
                    if (paintFrom(web, i + 1, Math.max(used, c + 1))) {
                        return true;
                    }
                    if (!hasLaterNeighbour(web, i)) {
                        // another number here leaves the later nodes as stuck as they are
                        return false;
                    }
                }
            }
            return false;
        }

        private static boolean hasLaterNeighbour(Web web, int i) {
            return web.neighbours(i) >> i != 0;
        }

        private boolean isFree(Web web, int c, int i) {
            for (int j = 0; j < i; j++) {
                if (has(web.neighbours(i), j) && shades[j] == c) {
                    return false;
                }
            }
            return true;
        }
    }

    /** The places of the nodes, and what can be told of the straight lines between them. */
    private static final class Desk {
        private final int[] xs = new int[NODES];
        private final int[] ys = new int[NODES];

        void put(int i, int x, int y) {
            xs[i] = x;
            ys[i] = y;
        }

        int across(int i) {
            return xs[i];
        }

        int upward(int i) {
            return ys[i];
        }

        boolean samePlace(int i, int j) {
            return xs[i] == xs[j] && ys[i] == ys[j];
        }

        /** Whether node i lies on the straight line from a to b (its ends, which may be one point, belong to it). */
        boolean liesOn(int i, int a, int b) {
            return turn(a, b, i) == 0 && isBetween(xs[i], xs[a], xs[b]) && isBetween(ys[i], ys[a], ys[b]);
        }

        /** Whether the straight lines from a to b and from c to d have a point in common. */
        boolean touch(int a, int b, int c, int d) {
            if (liesOn(a, c, d) || liesOn(b, c, d) || liesOn(c, a, b) || liesOn(d, a, b)) {
                return true;
            }
            return turn(a, b, c) * turn(a, b, d) < 0 && turn(c, d, a) * turn(c, d, b) < 0;
        }

        /** Whether the straight lines from one start to a and to b have more in common than the start. */
        boolean sameWay(int start, int a, int b) {
            int along = (xs[a] - xs[start]) * (xs[b] - xs[start]) + (ys[a] - ys[start]) * (ys[b] - ys[start]);
            return turn(start, a, b) == 0 && along > 0;
        }

        int boxArea(int set) {
            int left = FAR;
            int right = 0;
            int low = FAR;
            int high = 0;
            for (int i = 0; i < NODES; i++) {
                if (has(set, i)) {
                    left = Math.min(left, xs[i]);
                    right = Math.max(right, xs[i]);
                    low = Math.min(low, ys[i]);
                    high = Math.max(high, ys[i]);
                }
            }
            return (right - left) * (high - low);
        }

        /** Above 0, below 0 or 0: the way from a over b to c turns left, turns right, or c is in line with them. */
        private int turn(int a, int b, int c) {
            return (xs[b] - xs[a]) * (ys[c] - ys[a]) - (ys[b] - ys[a]) * (xs[c] - xs[a]);
        }

        private static boolean isBetween(int value, int one, int other) {
            return value >= Math.min(one, other) && value <= Math.max(one, other);
        }
    }
}
