import java.util.ArrayList;
import java.util.BitSet;
import java.util.List;

/**
 * Another way to tell whether lines can be drawn without crossings: the theorem of Hanani and Tutte. Draw the nodes
 * around a circle and the lines as chords; pulling a line over a node turns the parity of its crossings with each line
 * that ends there. A network can be drawn just when such pulls can make each two lines without a common end
 * cross an even number of times: a question of equations over 0 and 1.
 */
final class ParityDrawing {
    private static final int NODES = 16;

    private ParityDrawing() {
    }

    static boolean canDraw(List<int[]> lines) {
        int constant = lines.size() * NODES;
        List<BitSet> solved = new ArrayList<>();
        for (int e = 0; e < lines.size(); e++) {
            for (int f = e + 1; f < lines.size(); f++) {
                if (!shareAnEnd(lines.get(e), lines.get(f)) && !take(solved, equation(lines, e, f), constant)) {
                    return false;
                }
            }
        }
        return true;
    }

    private static boolean shareAnEnd(int[] e, int[] f) {
        return e[0] == f[0] || e[0] == f[1] || e[1] == f[0] || e[1] == f[1];
    }

    private static BitSet equation(List<int[]> lines, int e, int f) {
        BitSet row = new BitSet();
        for (int k = 0; k < 2; k++) {
            row.set(e * NODES + lines.get(f)[k]);
            row.set(f * NODES + lines.get(e)[k]);
        }
        row.set(lines.size() * NODES, chordsCross(lines.get(e), lines.get(f)));
        return row;
    }

    private static boolean chordsCross(int[] e, int[] f) {
        return isWithin(f[0], e) != isWithin(f[1], e);
    }

    private static boolean isWithin(int node, int[] e) {
        return node > Math.min(e[0], e[1]) && node < Math.max(e[0], e[1]);
    }

    /** Takes one equation more: false when it contradicts the others. Each solved row has its own first unknown. */
    private static boolean take(List<BitSet> solved, BitSet row, int constant) {
        for (BitSet other : solved) {
            if (row.get(other.nextSetBit(0))) {
                row.xor(other);
            }
        }
        int first = row.nextSetBit(0);
        if (first == constant) {
            return false;
        }
        if (first >= 0) {
            solved.add(row);
        }
        return true;
    }
}
