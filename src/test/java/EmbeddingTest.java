import java.util.ArrayList;
import java.util.List;

/**
 * Promises 9, 13 and 16 on all networks of five nodes, by trying all drawings: in a drawing of a piece the lines lie
 * in some order around each node; these orders tell the faces, and by Euler's formula whether they are a drawing in
 * the plane. Pieces can be drawn in any face of one another.
 */
public final class EmbeddingTest {
    private static final int NODES = 5;

    private final int[] near = new int[NODES];
    private final int[][] order = new int[NODES][];
    private int piece;
    private int pieceLines;
    private boolean pieceCanBeDrawn;
    private int pieceFaces;
    private final boolean[] aroundInPiece = new boolean[1 << NODES];

    public static void main(String[] args) {
        for (int chosen = 0; chosen < 1 << NODES * (NODES - 1) / 2; chosen++) {
            new EmbeddingTest().checkNetwork(chosen);
        }
        Check.finish("EmbeddingTest");
    }

    private void checkNetwork(int chosen) {
        PlanarSketch desk = Desks.with(NODES, "");
        int pair = 0;
        for (int i = 0; i < NODES; i++) {
            for (int j = i + 1; j < NODES; j++) {
                if ((chosen >> pair++ & 1) != 0) {
                    desk.line(i, j);
                    near[i] |= 1 << j;
                    near[j] |= 1 << i;
                }
            }
        }
        boolean drawable = true;
        int faces = 1;
        boolean[] around = new boolean[1 << NODES];
        java.util.Arrays.fill(around, true);
        int seen = 0;
        for (int i = 0; i < NODES; i++) {
            if ((seen >> i & 1) == 0) {
                findPiece(i);
                seen |= piece;
                drawable &= pieceCanBeDrawn;
                faces += pieceFaces - 1;
                for (int set = 0; set < 1 << NODES; set++) {
                    around[set] &= aroundInPiece[set & piece];
                }
            }
        }
        Check.same("drawable " + chosen, drawable, desk.drawable());
        String facesDue = drawable ? "" + faces : "throws.IllegalStateException";
        Check.same("faces " + chosen, facesDue, Check.outcome(desk::faces));
        for (int set = 0; set < 1 << NODES; set++) {
            Check.same("around " + chosen + ", " + set, drawable && around[set], desk.around(set));
        }
    }

    /** The piece of a node, and all its drawings. */
    private void findPiece(int start) {
        piece = 1 << start;
        for (int round = 0; round < NODES; round++) {
            for (int i = 0; i < NODES; i++) {
                piece |= (piece >> i & 1) != 0 ? near[i] : 0;
            }
        }
        pieceLines = 0;
        for (int i = 0; i < NODES; i++) {
            pieceLines += (piece >> i & 1) != 0 ? Integer.bitCount(near[i]) : 0;
        }
        pieceLines /= 2;
        pieceCanBeDrawn = false;
        pieceFaces = 0;
        java.util.Arrays.fill(aroundInPiece, false);
        orderFrom(0);
    }

    private void orderFrom(int i) {
        if (i == NODES) {
            lookAtDrawing();
        } else if ((piece >> i & 1) == 0) {
            orderFrom(i + 1);
        } else {
            order[i] = new int[Integer.bitCount(near[i])];
            orderAround(i, 0, near[i]);
        }
    }

    private void orderAround(int i, int filled, int left) {
        if (left == 0) {
            orderFrom(i + 1);
            return;
        }
        for (int j = 0; j < NODES; j++) {
            // turning an order does not change it: the least neighbour can always be first
            if ((left >> j & 1) != 0 && (filled > 0 || j == Integer.numberOfTrailingZeros(near[i]))) {
                order[i][filled] = j;
                orderAround(i, filled + 1, left & ~(1 << j));
            }
        }
    }

    private void lookAtDrawing() {
        List<Integer> faces = new ArrayList<>();
        boolean[][] walked = new boolean[NODES][NODES];
        for (int i = 0; i < NODES; i++) {
            for (int j = 0; j < NODES; j++) {
                if ((piece >> i & near[i] >> j & 1) != 0 && !walked[i][j]) {
                    faces.add(walkAround(walked, i, j));
                }
            }
        }
        if (faces.isEmpty()) {
            faces.add(piece);
        }
        if (Integer.bitCount(piece) - pieceLines + faces.size() != 2) {
            return;
        }
        pieceCanBeDrawn = true;
        pieceFaces = faces.size();
        for (int face : faces) {
            for (int set = 0; set < 1 << NODES; set++) {
                aroundInPiece[set] |= (set & ~face) == 0;
            }
        }
    }

    private int walkAround(boolean[][] walked, int from, int to) {
        int face = 0;
        int i = from;
        int j = to;
        while (!walked[i][j]) {
            walked[i][j] = true;
            face |= 1 << i;
            int next = nextAround(j, i);
            i = j;
            j = next;
        }
        return face;
    }

    private int nextAround(int i, int j) {
        for (int k = 0; k < order[i].length; k++) {
            if (order[i][k] == j) {
                return order[i][(k + 1) % order[i].length];
            }
        }
        throw new IllegalStateException();
    }
}
