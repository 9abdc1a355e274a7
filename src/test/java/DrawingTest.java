/** Promises 9 to 17: what can be drawn, the pattern, faces, what could still come, and what is to spare. */
public final class DrawingTest {
    public static void main(String[] args) {
        drawable();
        clashesFoundLate();
        countOfDrawableNetworks();
        patternOfFive();
        patternOfSix();
        patternLeavesOutByNumber();
        patternWithLongWays();
        noPattern();
        faces();
        could();
        room();
        around();
        spare();
        spareIsFoundAtEachNumber();
        Check.finish("DrawingTest");
    }

    private static void drawable() {
        Check.same("nothing", true, new PlanarSketch().drawable());
        Check.same("ten lonely nodes", true, Desks.with(10, "").drawable());
        Check.same("K4", true, Desks.with(4, Desks.complete(0, 4)).drawable());
        Check.same("K5", false, Desks.with(5, Desks.complete(0, 5)).drawable());
        Check.same("K5 at the far nodes", false, Desks.with(10, Desks.complete(5, 5)).drawable());
        Check.same("K3,3", false, Desks.with(6, Desks.THREE_BY_THREE).drawable());
        Check.same("Petersen", false, Desks.with(10, Desks.PETERSEN).drawable());
        Check.same("cube", true, Desks.with(8, Desks.CUBE).drawable());
        Check.same("K5 less a line, twice at a node", true,
            Desks.with(9, "01 02 03 04 12 13 14 23 24 45 46 47 48 56 57 58 67 68").drawable());
        Check.same("cube and a long diagonal", false, Desks.with(8, Desks.CUBE + " 06").drawable());
        Check.same("cube and a short diagonal", true, Desks.with(8, Desks.CUBE + " 02").drawable());
        PlanarSketch fullest = Desks.with(10, Desks.FULL_DRAWABLE);
        Check.same("24 lines that can be drawn", true, fullest.drawable());
        fullest.cut(0);
        fullest.line(8, 9);
        Check.same("another line through the gap", true, fullest.drawable());
        fullest.cut(8);
        fullest.line(0, 1);
        Check.same("another line without a gap", false, fullest.drawable());
    }

    /** Networks in which the clash shows only after many back lines have been parted in sides. */
    private static void clashesFoundLate() {
        Check.same("eight nodes", false, Desks.with(8, "41 45 36 34 52 32 01 70 42 72 61 71 31 30 62").drawable());
        Check.same("nine nodes", false,
            Desks.with(9, "61 80 15 24 21 83 73 23 75 43 46 25 01 20 35 41 72").drawable());
        Check.same("around 0, 1 and 4", false, Desks.with(7, "41 64 61 52 01 43 45 42 21 02 62 51 53").around(19));
    }

    /** How many of all networks on n given nodes can be drawn: 1, 2, 8, 64, 1023, 32071 (known from books). */
    private static void countOfDrawableNetworks() {
        int[] known = {1, 1, 2, 8, 64, 1023, 32071};
        for (int n = 0; n < known.length; n++) {
            String[] pairs = n < 2 ? new String[0] : Desks.complete(0, n).split(" ");
            int count = 0;
            for (int chosen = 0; chosen < 1 << pairs.length; chosen++) {
                PlanarSketch desk = Desks.with(n, "");
                for (int p = 0; p < pairs.length; p++) {
                    if ((chosen >> p & 1) != 0) {
                        Desks.addLines(desk, pairs[p]);
                    }
                }
                count += desk.drawable() ? 1 : 0;
            }
            Check.same("drawable networks on " + n + " nodes", known[n], count);
        }
    }

    private static void patternOfFive() {
        PlanarSketch desk = Desks.with(10, "01 " + Desks.complete(3, 5) + " 12 02");
        Check.same("witness of K5", 5, desk.witness());
        Check.same("pattern of K5", 0x7FE, desk.pattern());
        checkCorners(desk, 3, 4, 5, 6, 7);
    }

    private static void patternOfSix() {
        PlanarSketch desk = Desks.with(8, "17 13 15 27 23 25 47 43 45");
        Check.same("witness of K3,3", 33, desk.witness());
        Check.same("pattern of K3,3", 511, desk.pattern());
        checkCorners(desk, 1, 2, 4, 3, 5, 7);
        PlanarSketch other = Desks.with(10, "60 61 63 80 81 83 90 91 93");
        checkCorners(other, 0, 1, 3, 6, 8, 9);
        PlanarSketch mixed = Desks.with(6, "02 03 04 12 13 14 52 53 54");
        checkCorners(mixed, 0, 1, 5, 2, 3, 4);
    }

    private static void patternLeavesOutByNumber() {
        // in K6 whole patterns are found by leaving out the least numbers first
        PlanarSketch desk = Desks.with(6, Desks.complete(0, 6));
        int pattern = desk.pattern();
        Check.same("lines to node 0 go first", 0, pattern & 31);
        Check.same("K5 remains", (1 << 15) - 32, pattern);
        Check.same("witness", 5, desk.witness());
        checkCorners(desk, 1, 2, 3, 4, 5);
        PlanarSketch turned = Desks.with(6, "12 45 03 04 05 13 14 15 23 24 25");
        Check.same("two lines beside K3,3", 0x7FC, turned.pattern());
        Check.same("witness", 33, turned.witness());
    }

    private static void patternWithLongWays() {
        // the line from 0 to 1 of K5 goes over 5 and 6, that from 2 to 3 over 7; 8 and 9 hang on
        PlanarSketch desk = Desks.with(10, "05 56 61 02 03 04 12 13 14 27 73 24 34 78 89");
        Check.same("witness", 5, desk.witness());
        Check.same("pattern", (1 << 13) - 1, desk.pattern());
        checkCorners(desk, 0, 1, 2, 3, 4);
        // K3,3 of 1 2 3 and 4 5 6, the least node on a way
        PlanarSketch six = Desks.with(10, "10 04 15 16 24 25 26 37 79 94 35 36");
        Check.same("witness", 33, six.witness());
        Check.same("pattern", (1 << 12) - 1, six.pattern());
        checkCorners(six, 1, 2, 3, 4, 5, 6);
        PlanarSketch petersen = Desks.with(10, Desks.PETERSEN);
        Check.same("witness of Petersen", 33, petersen.witness());
    }

    private static void checkCorners(PlanarSketch desk, int... want) {
        for (int k = 0; k < want.length; k++) {
            Check.same("corner " + k, want[k], desk.corner(k));
        }
    }

    private static void noPattern() {
        Check.same("witness of nothing", 0, new PlanarSketch().witness());
        PlanarSketch desk = Desks.with(8, Desks.CUBE);
        Check.same("witness of the cube", 0, desk.witness());
        Check.same("pattern of the cube", 0, desk.pattern());
    }

    private static void faces() {
        Check.same("faces of nothing", 1, new PlanarSketch().faces());
        Check.same("faces of lonely nodes", 1, Desks.with(10, "").faces());
        Check.same("faces of a tree", 1, Desks.with(4, "01 12 13").faces());
        Check.same("faces of a ring", 2, Desks.with(4, "01 12 23 30").faces());
        Check.same("faces of two rings and a node", 3, Desks.with(7, "01 12 20 34 45 53").faces());
        Check.same("faces of the cube", 6, Desks.with(8, Desks.CUBE).faces());
        Check.same("faces of the fullest", 16, Desks.with(10, Desks.FULL_DRAWABLE).faces());
    }

    private static void could() {
        PlanarSketch desk = Desks.with(9, Desks.CUBE);
        Check.same("short diagonal", true, desk.could(0, 2));
        Check.same("short diagonal, turned", true, desk.could(2, 0));
        Check.same("long diagonal", false, desk.could(0, 6));
        Check.same("to the lonely node", true, desk.could(8, 0));
        Check.same("could changes no lines", (1 << 12) - 1, desk.lines());
        Check.same("could in a full drawing", false, Desks.with(10, Desks.FULL_DRAWABLE).could(8, 9));
        Check.same("could when not drawable", false, Desks.with(7, Desks.complete(0, 5)).could(5, 6));
    }

    private static void room() {
        Check.same("room of nothing", 0, new PlanarSketch().room());
        Check.same("room of one", 0, Desks.with(1, "").room());
        Check.same("room of ten", 45, Desks.with(10, "").room());
        Check.same("room of the cube", 12, Desks.with(8, Desks.CUBE).room());
        Check.same("room of the cube and a node", 20, Desks.with(9, Desks.CUBE).room());
        Check.same("room of a full drawing", 0, Desks.with(10, Desks.FULL_DRAWABLE).room());
        Check.same("room when not drawable", 0, Desks.with(9, Desks.complete(0, 5)).room());
        Check.same("room of K4", 0, Desks.with(4, Desks.complete(0, 4)).room());
        Check.same("room of K5 less a line", 0, Desks.with(5, "01 02 03 04 12 13 14 23 24").room());
        Check.same("room of a path", 1, Desks.with(3, "01 12").room());
    }

    private static void around() {
        PlanarSketch cube = Desks.with(9, Desks.CUBE);
        Check.same("around nothing", true, cube.around(0));
        Check.same("around a side", true, cube.around(15));
        Check.same("around a side and a lonely node", true, cube.around(15 + 256));
        Check.same("around five of the cube", false, cube.around(31));
        Check.same("around a long diagonal", false, cube.around(1 + 64));
        Check.same("around a short diagonal", true, cube.around(1 + 32));
        Check.same("around all of nothing", true, new PlanarSketch().around(0));
        Check.same("around all of ten", true, Desks.with(10, "").around(1023));
        Check.same("around all of a tree", true, Desks.with(10, "01 12 13 34 35 56 57 78 79").around(1023));
        Check.same("around all of K4", false, Desks.with(4, Desks.complete(0, 4)).around(15));
        Check.same("around all of K4 and K4, 3 of each", true,
            Desks.with(8, Desks.complete(0, 4) + " " + Desks.complete(4, 4)).around(7 + 112));
        Check.same("around when not drawable", false, Desks.with(6, Desks.complete(0, 5)).around(32));
        Check.same("around nothing when not drawable", false, Desks.with(6, Desks.complete(0, 5)).around(0));
    }

    private static void spare() {
        Check.same("spare of nothing", 0, new PlanarSketch().spare());
        Check.same("spare of the cube", 0, Desks.with(8, Desks.CUBE).spare());
        Check.same("spare of K5", 1, Desks.with(5, Desks.complete(0, 5)).spare());
        Check.same("spare of K5, K5", 2,
            Desks.with(10, Desks.complete(0, 5) + " " + Desks.complete(5, 5)).spare());
        Check.same("spare of Petersen", 2, Desks.with(10, Desks.PETERSEN).spare());
        Check.same("spare of K6", 3, Desks.with(6, Desks.complete(0, 6)).spare());
        Check.same("spare of K7", 3, Desks.with(7, Desks.complete(0, 7)).spare());
        Check.same("spare of K5, K5 and a way", 2,
            Desks.with(10, Desks.complete(0, 5) + " " + Desks.complete(5, 5) + " 05 16").spare());
        PlanarSketch late = Desks.with(10, Desks.complete(0, 7) + " 78 89 97");
        late.drop(0);
        late.drop(1);
        Check.same("spare of lines with great numbers", 1, late.spare());
    }

    private static void spareIsFoundAtEachNumber() {
        // only the line from 3 to 4 will do in the one, only the lines 0 to 6 and 1 to 5 together in the other
        checkTurned(1, "34 21 52 24 65 61 46 37 57 54 03 50 17 01");
        checkTurned(2, "06 51 40 42 63 31 34 74 14 52 07 17 32 16 50 20 73 72");
        checkTurned(2, "06 40 42 63 31 34 74 14 52 07 17 32 51 16 50 20 73 72");
    }

    /** Asks with each of the lines as the first one, and with the least and with the greatest numbers. */
    private static void checkTurned(int due, String written) {
        String[] lines = written.split(" ");
        for (int first = 0; first < lines.length; first++) {
            PlanarSketch least = Desks.with(8, "");
            PlanarSketch greatest = Desks.with(10, "");
            for (int k = 0; k < 24 - lines.length; k++) {
                greatest.line(k / 2, 8 + k % 2);
            }
            for (int k = 0; k < lines.length; k++) {
                String next = lines[(first + k) % lines.length];
                Desks.addLines(least, next);
                Desks.addLines(greatest, next);
            }
            greatest.drop(8);
            greatest.drop(9);
            Check.same("spare, line " + first + " first", due, least.spare());
            Check.same("spare, line " + first + " first, great numbers", due, greatest.spare());
        }
    }
}
