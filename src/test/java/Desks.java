/** Makes desks for the tests. */
final class Desks {
    private Desks() {
    }

    /** A desk with the nodes 0 .. count - 1 and with lines, each written as its two ends: "01 12 20". */
    static PlanarSketch with(int count, String lines) {
        PlanarSketch desk = new PlanarSketch();
        for (int i = 0; i < count; i++) {
            desk.node(i);
        }
        addLines(desk, lines);
        return desk;
    }

    static void addLines(PlanarSketch desk, String lines) {
        if (lines.isEmpty()) {
            return;
        }
        for (String ends : lines.split(" ")) {
            desk.line(ends.charAt(0) - '0', ends.charAt(1) - '0');
        }
    }

    /** All lines between the nodes first .. first + count - 1. */
    static String complete(int first, int count) {
        StringBuilder lines = new StringBuilder();
        for (int i = first; i < first + count; i++) {
            for (int j = i + 1; j < first + count; j++) {
                lines.append(lines.length() == 0 ? "" : " ").append(i).append(j);
            }
        }
        return lines.toString();
    }

    /** The drawing needs a place for each of the first nodes: x, y, x, y ... */
    static void place(PlanarSketch desk, int... places) {
        for (int i = 0; 2 * i + 1 < places.length; i++) {
            desk.place(i, places[2 * i], places[2 * i + 1]);
        }
    }
}
