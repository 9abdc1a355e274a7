/** Makes desks for the tests. */
final class Desks {
    /** Lines that fill the desk and can be drawn: eight nodes in a ring, each of them joined to 8 and to 9. */
    static final String FULL_DRAWABLE = "01 12 23 34 45 56 67 70 80 81 82 83 84 85 86 87 90 91 92 93 94 95 96 97";
    /** Lines that fill the desk and cannot be drawn: seven nodes, each joined to each, and 7 joined to three. */
    static final String FULL_TANGLED = complete(0, 7) + " 07 17 27";
    static final String FIVE = complete(0, 5);
    static final String THREE_BY_THREE = "03 04 05 13 14 15 23 24 25";
    static final String PETERSEN = "01 12 23 34 40 05 16 27 38 49 57 79 96 68 85";
    static final String CUBE = "01 12 23 30 45 56 67 74 04 15 26 37";

    /** Numbers that no node bears; the last ones are such as would be a node's number if only some bits counted. */
    static final int[] NO_NODES = {-1, 10, 11, 15, -10, Integer.MIN_VALUE, Integer.MAX_VALUE,
        16, 32, 36, 41, 64, -32, -28, 256, 1 << 16, 4 - (1 << 16), Integer.MIN_VALUE + 4};
    /** Numbers that no line bears; the last ones are such as would be a line's number if only some bits counted. */
    static final int[] NO_LINES = {-1, 24, 25, 31, -24, Integer.MIN_VALUE, Integer.MAX_VALUE,
        32, 33, 55, 64, -32, -31, -9, 256, 1 << 16, 1 - (1 << 16), Integer.MIN_VALUE + 1};
    /** Numbers other than 0 and 1, for ends and axes. */
    static final int[] NEITHER_0_NOR_1 = {-1, 2, 3, -2, 10, 32, 33, 256, Integer.MIN_VALUE, Integer.MAX_VALUE};

    private Desks() {
    }

    /** A desk with the nodes 0 .. count - 1 and with lines, each written as its two ends: "01 12 20". */
    static PlanarSketch with(int count, String lines) {
        PlanarSketch desk = new PlanarSketch();
        for (int i = 0; i < count; i++) {
            desk.node(i);
        }
        addLines(desk, lines);
        return desk;
    }

    /** The same as {@link #with}, for desks that are made again and again. */
    static Check.Maker of(int count, String lines) {
        return () -> with(count, lines);
    }

    static void addLines(PlanarSketch desk, String lines) {
        if (lines.isEmpty()) {
            return;
        }
        for (String ends : lines.split(" ")) {
            desk.line(ends.charAt(0) - '0', ends.charAt(1) - '0');
        }
    }

    /** All lines between the nodes first .. first + count - 1. */
    static String complete(int first, int count) {
        StringBuilder lines = new StringBuilder();
        for (int i = first; i < first + count; i++) {
            for (int j = i + 1; j < first + count; j++) {
                lines.append(lines.length() == 0 ? "" : " ").append(i).append(j);
            }
        }
        return lines.toString();
    }

    /** Puts the first nodes to places: x, y, x, y ... */
    static void place(PlanarSketch desk, int... places) {
        for (int i = 0; 2 * i + 1 < places.length; i++) {
            desk.place(i, places[2 * i], places[2 * i + 1]);
        }
    }

    /** Desks of all kinds: empty, with lonely nodes, full, drawable or not, with gaps in the numbers, with places. */
    static Check.Maker[] ofAllKinds() {
        return new Check.Maker[] {
            PlanarSketch::new,
            of(1, ""),
            of(10, ""),
            of(10, FULL_DRAWABLE),
            of(10, FULL_TANGLED),
            of(8, CUBE),
            Desks::withGaps,
        };
    }

    /** The nodes 1 2 4 5 7 8 and the lines 1 (1-4), 3 (4-7), 4 (7-1) and 6 (2-5), at places. */
    static PlanarSketch withGaps() {
        PlanarSketch desk = with(9, "01 14 30 47 71 46 25");
        desk.drop(0);
        desk.drop(3);
        desk.drop(6);
        for (int i = 0; i < 10; i++) {
            desk.place(i, 3 * i, 30 - i * i / 3);
        }
        return desk;
    }
}
