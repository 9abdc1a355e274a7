import java.util.ArrayList;
import java.util.List;
import java.util.NoSuchElementException;
import java.util.TreeMap;
import java.util.TreeSet;

/** The document's words once more, in other ways than the program's, for runs of calls on both. */
final class SlowModel {
    private final TreeSet<Integer> nodes = new TreeSet<>();
    private final TreeMap<Integer, int[]> lines = new TreeMap<>();
    private final int[][] places = new int[10][2];

    int node(int i) {
        need(i >= 0 && i < 10, new IndexOutOfBoundsException());
        need(nodes.add(i), new IllegalStateException());
        return nodes.size();
    }

    int line(int i, int j) {
        need(nodes.contains(i) && nodes.contains(j), new NoSuchElementException());
        need(i != j, new IllegalArgumentException());
        need(!joined(i, j) && lines.size() < 24, new IllegalStateException());
        int number = 0;
        while (lines.containsKey(number)) {
            number++;
        }
        lines.put(number, new int[] {Math.min(i, j), Math.max(i, j)});
        return number;
    }

    int cut(int l) {
        need(lines.remove(l) != null, new NoSuchElementException());
        return lines.size();
    }

    int drop(int i) {
        need(nodes.remove(i), new NoSuchElementException());
        int before = lines.size();
        lines.values().removeIf(line -> line[0] == i || line[1] == i);
        return before - lines.size();
    }

    int nodes() {
        return bits(nodes);
    }

    int lines() {
        return bits(lines.keySet());
    }

    int end(int l, int which) {
        need(lines.containsKey(l), new NoSuchElementException());
        need(which == 0 || which == 1, new IndexOutOfBoundsException());
        return lines.get(l)[which];
    }

    boolean drawable() {
        return ParityDrawing.canDraw(new ArrayList<>(lines.values()));
    }

    int witness() {
        return drawable() ? 0 : corners().size() == 5 ? 5 : 33;
    }

    int pattern() {
        return bits(patternLines().keySet());
    }

    int corner(int k) {
        need(!drawable(), new IllegalStateException());
        List<Integer> corners = corners();
        need(k >= 0 && k < corners.size(), new IndexOutOfBoundsException());
        return corners.get(k);
    }

    int faces() {
        need(drawable(), new IllegalStateException());
        return 1 + lines.size() - nodes.size() + pieces();
    }

    boolean could(int i, int j) {
        need(nodes.contains(i) && nodes.contains(j), new NoSuchElementException());
        need(i != j && !joined(i, j), new IllegalArgumentException());
        List<int[]> all = new ArrayList<>(lines.values());
        all.add(new int[] {i, j});
        return ParityDrawing.canDraw(all);
    }

    int room() {
        int count = 0;
        for (int i : nodes) {
            for (int j : nodes.tailSet(i, false)) {
                count += !joined(i, j) && could(i, j) ? 1 : 0;
            }
        }
        return count;
    }

    boolean around(int set) {
        List<int[]> all = new ArrayList<>(lines.values());
        for (int i = 0; i < 32; i++) {
            if ((set >> i & 1) != 0) {
                need(nodes.contains(i), new NoSuchElementException());
                all.add(new int[] {i, 10});
            }
        }
        return ParityDrawing.canDraw(all);
    }

    int spare() {
        for (int count = 0; count < 3; count++) {
            if (canDrawWithout(new ArrayList<>(lines.values()), count, 0)) {
                return count;
            }
        }
        return 3;
    }

    private static boolean canDrawWithout(List<int[]> left, int count, int first) {
        if (count == 0) {
            return ParityDrawing.canDraw(left);
        }
        for (int k = first; k < left.size(); k++) {
            List<int[]> fewer = new ArrayList<>(left);
            fewer.remove(k);
            if (canDrawWithout(fewer, count - 1, k)) {
                return true;
            }
        }
        return false;
    }

    int pieces() {
        return pieces(nodes, lines);
    }

    boolean bridge(int l) {
        need(lines.containsKey(l), new NoSuchElementException());
        TreeMap<Integer, int[]> fewer = new TreeMap<>(lines);
        fewer.remove(l);
        return pieces(nodes, fewer) > pieces();
    }

    boolean hinge(int i) {
        need(nodes.contains(i), new NoSuchElementException());
        TreeSet<Integer> fewer = new TreeSet<>(nodes);
        fewer.remove(i);
        TreeMap<Integer, int[]> fewerLines = new TreeMap<>(lines);
        fewerLines.values().removeIf(line -> line[0] == i || line[1] == i);
        return pieces(fewer, fewerLines) > pieces();
    }

    int colours() {
        int count = 0;
        while (colouring(count) == null) {
            count++;
        }
        return count;
    }

    int colour(int i) {
        need(nodes.contains(i), new NoSuchElementException());
        return colouring(colours()).get(i);
    }

    int place(int i, int x, int y) {
        need(i >= 0 && i < 10, new IndexOutOfBoundsException());
        need(x >= 0 && x <= 30 && y >= 0 && y <= 30, new IllegalArgumentException());
        places[i] = new int[] {x, y};
        return wrongPairs();
    }

    int at(int i, int axis) {
        need(i >= 0 && i < 10 && axis >= 0 && axis < 2, new IndexOutOfBoundsException());
        return places[i][axis];
    }

    boolean meets(int l, int m) {
        need(lines.containsKey(l) && lines.containsKey(m), new NoSuchElementException());
        need(l != m, new IllegalArgumentException());
        return meetWrongly(lines.get(l), lines.get(m));
    }

    int wrong() {
        int count = 0;
        for (int i : nodes) {
            boolean bad = false;
            for (int j : nodes) {
                bad |= i != j && SlowPlane.common(places[i], places[i], places[j], places[j]) != SlowPlane.NOTHING;
            }
            for (int[] line : lines.values()) {
                bad |= i != line[0] && i != line[1]
                    && SlowPlane.common(places[i], places[i], places[line[0]], places[line[1]]) != SlowPlane.NOTHING;
            }
            count += bad ? 1 : 0;
        }
        return count;
    }

    boolean flat() {
        return wrongPairs() + wrong() == 0;
    }

    int box() {
        if (nodes.isEmpty()) {
            return 0;
        }
        int width = nodes.stream().mapToInt(i -> places[i][0]).max().getAsInt()
            - nodes.stream().mapToInt(i -> places[i][0]).min().getAsInt();
        int height = nodes.stream().mapToInt(i -> places[i][1]).max().getAsInt()
            - nodes.stream().mapToInt(i -> places[i][1]).min().getAsInt();
        return 2 * width * height + 1;
    }

    private static void need(boolean holds, RuntimeException otherwise) {
        if (!holds) {
            throw otherwise;
        }
    }

    private static int bits(Iterable<Integer> numbers) {
        int bits = 0;
        for (int n : numbers) {
            bits |= 1 << n;
        }
        return bits;
    }

    private boolean joined(int i, int j) {
        return lines.values().stream().anyMatch(line -> line[0] == Math.min(i, j) && line[1] == Math.max(i, j));
    }

    private TreeMap<Integer, int[]> patternLines() {
        TreeMap<Integer, int[]> left = new TreeMap<>(lines);
        if (drawable()) {
            left.clear();
            return left;
        }
        for (int l : lines.keySet()) {
            int[] line = left.remove(l);
            if (ParityDrawing.canDraw(new ArrayList<>(left.values()))) {
                left.put(l, line);
            }
        }
        return left;
    }

    /** In their order; the ways of the pattern are shortened to single lines first. */
    private List<Integer> corners() {
        List<int[]> ways = new ArrayList<>();
        patternLines().values().forEach(line -> ways.add(line.clone()));
        TreeSet<Integer> corners = new TreeSet<>();
        for (int i = 0; i < 10; i++) {
            if (degree(ways, i) > 2) {
                corners.add(i);
            }
        }
        for (int i = 0; i < 10; i++) {
            if (degree(ways, i) == 2) {
                joinWaysAt(ways, i);
            }
        }
        List<Integer> first = new ArrayList<>(corners);
        if (corners.size() != 6) {
            return first;
        }
        TreeSet<Integer> facing = new TreeSet<>();
        for (int[] way : ways) {
            if (way[0] == corners.first() || way[1] == corners.first()) {
                facing.add(way[0] + way[1] - corners.first());
            }
        }
        first.removeAll(facing);
        first.addAll(facing);
        return first;
    }

    private static int degree(List<int[]> ways, int i) {
        return (int) ways.stream().filter(way -> way[0] == i || way[1] == i).count();
    }

    private static void joinWaysAt(List<int[]> ways, int i) {
        int[] joined = new int[2];
        int k = 0;
        for (int[] way : new ArrayList<>(ways)) {
            if (way[0] == i || way[1] == i) {
                joined[k++] = way[0] + way[1] - i;
                ways.remove(way);
            }
        }
        ways.add(joined);
    }

    private static int pieces(TreeSet<Integer> among, TreeMap<Integer, int[]> by) {
        int[] least = new int[10];
        for (int i : among) {
            least[i] = i;
        }
        for (int round = 0; round < 10; round++) {
            for (int[] line : by.values()) {
                least[line[0]] = least[line[1]] = Math.min(least[line[0]], least[line[1]]);
            }
        }
        return (int) among.stream().filter(i -> least[i] == i).count();
    }

    /** The least colouring with numbers below count, or null. */
    private TreeMap<Integer, Integer> colouring(int count) {
        TreeMap<Integer, Integer> colours = new TreeMap<>();
        return colourFrom(new ArrayList<>(nodes), count, colours) ? colours : null;
    }

    private boolean colourFrom(List<Integer> left, int count, TreeMap<Integer, Integer> colours) {
        if (left.isEmpty()) {
            return true;
        }
        int i = left.get(0);
        for (int c = 0; c < count; c++) {
            int tried = c;
            if (colours.keySet().stream().noneMatch(j -> joined(i, j) && colours.get(j) == tried)) {
                colours.put(i, c);
                if (colourFrom(left.subList(1, left.size()), count, colours)) {
                    return true;
                }
                colours.remove(i);
            }
        }
        return false;
    }

    private int wrongPairs() {
        int count = 0;
        for (int l : lines.keySet()) {
            for (int m : lines.tailMap(l, false).keySet()) {
                count += meets(l, m) ? 1 : 0;
            }
        }
        return count;
    }

    private boolean meetWrongly(int[] one, int[] other) {
        int common = SlowPlane.common(places[one[0]], places[one[1]], places[other[0]], places[other[1]]);
        boolean shareAnEnd = one[0] == other[0] || one[0] == other[1] || one[1] == other[0] || one[1] == other[1];
        // with an end in common its place is a point of both: then one point is that place
        return shareAnEnd ? common == SlowPlane.MORE : common != SlowPlane.NOTHING;
    }
}
