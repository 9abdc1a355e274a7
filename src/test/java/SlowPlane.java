/** What two straight lines have in common, by solving for the point. */
final class SlowPlane {
    static final int NOTHING = 0;
    static final int A_POINT = 1;
    static final int MORE = 2;

    private SlowPlane() {
    }

    /** From a to b, and from c to d. */
    static int common(int[] a, int[] b, int[] c, int[] d) {
        int[] way = minus(b, a);
        int[] other = minus(d, c);
        int[] gap = minus(c, a);
        int bottom = product(way, other);
        if (bottom != 0) {
            // a + s * way = c + t * other
            boolean within = isShare(product(gap, other), bottom) && isShare(product(gap, way), bottom);
            return within ? A_POINT : NOTHING;
        }
        if (product(way, gap) != 0 || product(other, gap) != 0) {
            return NOTHING;
        }
        return commonInLine(a, b, c, d);
    }

    /** All four are in line: they can be put in order by x, then by y. */
    private static int commonInLine(int[] a, int[] b, int[] c, int[] d) {
        int from = Math.max(Math.min(rank(a), rank(b)), Math.min(rank(c), rank(d)));
        int to = Math.min(Math.max(rank(a), rank(b)), Math.max(rank(c), rank(d)));
        return from > to ? NOTHING : from == to ? A_POINT : MORE;
    }

    private static int rank(int[] point) {
        return 100 * point[0] + point[1];
    }

    private static boolean isShare(int top, int bottom) {
        return bottom > 0 ? top >= 0 && top <= bottom : top <= 0 && top >= bottom;
    }

    private static int[] minus(int[] p, int[] q) {
        return new int[] {p[0] - q[0], p[1] - q[1]};
    }

    private static int product(int[] p, int[] q) {
        return p[0] * q[1] - p[1] * q[0];
    }
}
