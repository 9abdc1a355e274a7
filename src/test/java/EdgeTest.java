/**
 * The least, the greatest, the empty and the full case of each promise that is answered, not refused.
 * Refusals are in RefusalTest, what the terms say in TermsTest.
 */
public final class EdgeTest {
    private static final Check.Maker NOTHING = PlanarSketch::new;
    private static final Check.Maker ONE_NODE = Desks.of(1, "");
    private static final Check.Maker TEN_NODES = Desks.of(10, "");
    private static final Check.Maker FULL = Desks.of(10, Desks.FULL_DRAWABLE);
    private static final Check.Maker TANGLED = Desks.of(10, Desks.FULL_TANGLED);
    private static final Check.Maker FIVE = Desks.of(5, Desks.FIVE);
    private static final Check.Maker SIX = Desks.of(6, Desks.THREE_BY_THREE);
    private static final Check.Maker CUBE = Desks.of(8, Desks.CUBE);

    public static void main(String[] args) {
        newObject();
        node();
        line();
        cut();
        drop();
        nodesAndLines();
        end();
        drawable();
        witnessAndPattern();
        corner();
        faces();
        could();
        room();
        around();
        aroundWhenNotDrawable();
        spare();
        pieces();
        bridge();
        hinge();
        colours();
        colour();
        place();
        at();
        meets();
        wrong();
        flat();
        box();
        Check.finish("EdgeTest");
    }

    /** Promise 1: 'No nodes, no lines', and what follows from that for every call. */
    private static void newObject() {
        Check.same("NONE", -1, PlanarSketch.NONE);
        Check.tells("new: nodes", 0, NOTHING, PlanarSketch::nodes);
        Check.tells("new: lines", 0, NOTHING, PlanarSketch::lines);
        Check.tells("new: drawable", true, NOTHING, PlanarSketch::drawable);
        Check.tells("new: witness", 0, NOTHING, PlanarSketch::witness);
        Check.tells("new: pattern", 0, NOTHING, PlanarSketch::pattern);
        Check.tells("new: faces", 1, NOTHING, PlanarSketch::faces);
        Check.tells("new: room", 0, NOTHING, PlanarSketch::room);
        Check.tells("new: around", true, NOTHING, desk -> desk.around(0));
        Check.tells("new: spare", 0, NOTHING, PlanarSketch::spare);
        Check.tells("new: pieces", 0, NOTHING, PlanarSketch::pieces);
        Check.tells("new: colours", 0, NOTHING, PlanarSketch::colours);
        Check.tells("new: wrong", 0, NOTHING, PlanarSketch::wrong);
        Check.tells("new: flat", true, NOTHING, PlanarSketch::flat);
        Check.tells("new: box", 0, NOTHING, PlanarSketch::box);
        Check.tells("new: place", 0, NOTHING, desk -> desk.place(0, 0, 0));
        PlanarSketch emptied = Desks.with(10, Desks.FULL_TANGLED);
        for (int i = 0; i < 10; i++) {
            emptied.drop(i);
        }
        Check.same("emptied again", Check.stateOf(new PlanarSketch()), Check.stateOf(emptied));
    }

    /** Promise 2: 'how many are there then', from the first to the tenth, in whatever order. */
    private static void node() {
        PlanarSketch upward = new PlanarSketch();
        PlanarSketch downward = new PlanarSketch();
        for (int i = 0; i < 10; i++) {
            Check.same("node " + i, i + 1, upward.node(i));
            Check.same("node " + (9 - i), i + 1, downward.node(9 - i));
        }
        for (int i = 0; i < 10; i++) {
            upward.drop(i);
            Check.same("node " + i + " again", 10, upward.node(i));
        }
    }

    /** Promise 3: 'its number', between any two nodes, either way round. */
    private static void line() {
        for (int i = 0; i < 10; i++) {
            for (int j = 0; j < 10; j++) {
                if (i != j) {
                    Check.same("first line " + i + "-" + j, 0, TEN_NODES.make().line(i, j));
                }
            }
        }
        PlanarSketch nearlyFull = FULL.make();
        nearlyFull.cut(5);
        Check.same("a 24th line", 5, nearlyFull.line(9, 8));
    }

    /** Promise 4: 'how many are left', from a full desk to none. */
    private static void cut() {
        PlanarSketch upward = FULL.make();
        PlanarSketch downward = TANGLED.make();
        for (int l = 0; l < 24; l++) {
            Check.same("cut " + l, 23 - l, upward.cut(l));
            Check.same("cut " + (23 - l), 23 - l, downward.cut(23 - l));
        }
        Check.same("nodes stay", 1023, upward.nodes());
        Check.same("no lines", 0, upward.lines());
        Check.same("no lines", 0, downward.lines());
    }

    /** Promise 5: 'how many lines these were', from none to nine. */
    private static void drop() {
        Check.same("a lonely node", 0, TEN_NODES.make().drop(9));
        Check.same("the only node", 0, ONE_NODE.make().drop(0));
        PlanarSketch star = Desks.with(10, "40 41 42 43 45 46 47 48 49 01 89");
        Check.same("a node of two lines", 2, star.drop(9));
        Check.same("a node of eight lines", 8, star.drop(4));
        Check.same("what is left", 1 << 9, star.lines());
        Check.same("nine lines", 9, Desks.with(10, "40 41 42 43 45 46 47 48 49 01").drop(4));
    }

    /** Promises 6 and 7: 'as bits', none, each one, all. */
    private static void nodesAndLines() {
        Check.tells("all nodes", 1023, TEN_NODES, PlanarSketch::nodes);
        Check.tells("all lines", 0xFFFFFF, FULL, PlanarSketch::lines);
        PlanarSketch desk = FULL.make();
        int left = 0xFFFFFF;
        for (int l = 23; l > 0; l -= 2) {
            desk.cut(l);
            left &= ~(1 << l);
            Check.same("lines without " + l, left, desk.lines());
        }
        desk.drop(9);
        desk.drop(0);
        Check.same("nodes without 0 and 9", 0x1FE, desk.nodes());
    }

    /** Promise 8: 'the less one (0) or the other one (1)', however the line was given. */
    private static void end() {
        for (int i = 0; i < 10; i++) {
            for (int j = 0; j < 10; j++) {
                if (i != j) {
                    PlanarSketch desk = Desks.with(10, "" + i + j);
                    Check.same("less end of " + i + "-" + j, Math.min(i, j), desk.end(0, 0));
                    Check.same("other end of " + i + "-" + j, Math.max(i, j), desk.end(0, 1));
                }
            }
        }
        Check.tells("less end of line 23", 7, FULL, desk -> desk.end(23, 0));
        Check.tells("other end of line 23", 9, FULL, desk -> desk.end(23, 1));
    }

    /** Promise 9: few lines can always be drawn; a full desk may be drawable or not. */
    private static void drawable() {
        Check.tells("a node", true, ONE_NODE, PlanarSketch::drawable);
        Check.tells("ten nodes", true, TEN_NODES, PlanarSketch::drawable);
        Check.tells("24 lines", true, FULL, PlanarSketch::drawable);
        Check.tells("24 lines, tangled", false, TANGLED, PlanarSketch::drawable);
        Check.tells("the fewest lines that cannot", false, SIX, PlanarSketch::drawable);
        Check.tells("the fewest nodes that cannot", false, FIVE, PlanarSketch::drawable);
        for (int l = 0; l < 10; l++) {
            PlanarSketch five = FIVE.make();
            five.cut(l);
            Check.same("K5 less line " + l, true, five.drawable());
        }
        for (int l = 0; l < 9; l++) {
            PlanarSketch six = SIX.make();
            six.cut(l);
            Check.same("K3,3 less line " + l, true, six.drawable());
        }
        for (int l = 0; l < 24; l++) {
            PlanarSketch other = FULL.make();
            other.cut(l);
            other.line(8, 9);
            Check.same("8 joined to 9 instead of line " + l, l < 8, other.drawable());
        }
    }

    /** Promises 10 and 11: '5 or 33; 0 when the network is drawable', and 0 for its lines. */
    private static void witnessAndPattern() {
        Check.tells("witness when drawable", 0, FULL, PlanarSketch::witness);
        Check.tells("pattern when drawable", 0, FULL, PlanarSketch::pattern);
        Check.tells("witness of ten nodes", 0, TEN_NODES, PlanarSketch::witness);
        Check.tells("witness of five", 5, FIVE, PlanarSketch::witness);
        Check.tells("pattern of five", 1023, FIVE, PlanarSketch::pattern);
        Check.tells("witness of six", 33, SIX, PlanarSketch::witness);
        Check.tells("pattern of six", 511, SIX, PlanarSketch::pattern);
        PlanarSketch late = Desks.with(10, Desks.complete(5, 5) + " 05 15 25 35 " + Desks.FIVE);
        late.cut(12);
        late.cut(13);
        Check.same("pattern of the greatest numbers", 1023 << 14, late.pattern());
        late.cut(23);
        Check.same("pattern of the least numbers", 1023, late.pattern());
        late.cut(0);
        Check.same("pattern of none", 0, late.pattern());
        Check.same("witness of none", 0, late.witness());
    }

    /** Promise 12: 'of five nodes by number; of six first the three among which the least one is, by number'. */
    private static void corner() {
        checkCorners(Desks.with(10, Desks.complete(5, 5)), 5, 6, 7, 8, 9);
        checkCorners(Desks.with(10, "90 91 92 80 81 82 70 71 72"), 0, 1, 2, 7, 8, 9);
        checkCorners(Desks.with(10, "01 03 05 21 23 25 41 43 45"), 0, 2, 4, 1, 3, 5);
        checkCorners(Desks.with(10, "91 92 93 81 82 83 41 42 43"), 1, 2, 3, 4, 8, 9);
        checkCorners(Desks.with(10, "49 48 47 59 58 57 69 68 67"), 4, 5, 6, 7, 8, 9);
        checkCorners(Desks.with(10, "01 02 03 91 92 93 51 52 53"), 0, 5, 9, 1, 2, 3);
    }

    private static void checkCorners(PlanarSketch desk, int... due) {
        for (int k = 0; k < due.length; k++) {
            Check.same("corner " + k, due[k], desk.corner(k));
        }
        Check.same("no corner more", "throws.IndexOutOfBoundsException", Check.outcome(() -> desk.corner(due.length)));
    }

    /** Promise 13: from one face to as many as a full desk can have. */
    private static void faces() {
        Check.tells("faces of a node", 1, ONE_NODE, PlanarSketch::faces);
        Check.tells("faces of ten nodes", 1, TEN_NODES, PlanarSketch::faces);
        Check.tells("faces of a full desk", 16, FULL, PlanarSketch::faces);
        Check.tells("faces of the cube", 6, CUBE, PlanarSketch::faces);
        Check.tells("faces of three rings and a node", 4, Desks.of(10, "01 12 20 34 45 53 67 78 86"),
            PlanarSketch::faces);
    }

    /** Promise 14: a full desk, one that is not drawable, and one where the line is the last that fits. */
    private static void could() {
        Check.tells("could in a full drawing", false, FULL, desk -> desk.could(8, 9));
        Check.tells("could in a full tangle", false, TANGLED, desk -> desk.could(8, 9));
        Check.tells("could beside K5", false, Desks.of(7, Desks.FIVE), desk -> desk.could(5, 6));
        Check.tells("could with two nodes", true, Desks.of(2, ""), desk -> desk.could(1, 0));
        Check.tells("could between the farthest", true, TEN_NODES, desk -> desk.could(9, 0));
        for (int l = 0; l < 24; l++) {
            PlanarSketch desk = FULL.make();
            int less = desk.end(l, 0);
            int more = desk.end(l, 1);
            desk.cut(l);
            Check.same("could have line " + l + " back", true, desk.could(less, more));
            Check.same("could have it back, turned", true, desk.could(more, less));
        }
    }

    /** Promise 15: none, one, all pairs; none when the network is not drawable. */
    private static void room() {
        Check.tells("room of one", 0, ONE_NODE, PlanarSketch::room);
        Check.tells("room of two", 1, Desks.of(2, ""), PlanarSketch::room);
        Check.tells("room of two joined", 0, Desks.of(2, "01"), PlanarSketch::room);
        Check.tells("room of ten", 45, TEN_NODES, PlanarSketch::room);
        Check.tells("room of a full desk", 0, FULL, PlanarSketch::room);
        Check.tells("room of a full tangle", 0, TANGLED, PlanarSketch::room);
        Check.tells("room of K5 and five nodes", 0, Desks.of(10, Desks.FIVE), PlanarSketch::room);
        PlanarSketch oneLess = FULL.make();
        oneLess.cut(0);
        Check.same("room for the line itself and for that across it", 2, oneLess.room());
    }

    /** Promise 16: the empty set, each node alone, all nodes. */
    private static void around() {
        for (Check.Maker maker : new Check.Maker[] {NOTHING, ONE_NODE, TEN_NODES, FULL, CUBE, Desks::withGaps}) {
            int there = maker.make().nodes();
            Check.tells("around nothing", true, maker, desk -> desk.around(0));
            for (int i = 0; i < 10; i++) {
                int bit = 1 << i;
                if ((there & bit) != 0) {
                    Check.tells("around node " + i, true, maker, desk -> desk.around(bit));
                }
            }
        }
        Check.tells("around all of one", true, ONE_NODE, desk -> desk.around(1));
        Check.tells("around all of ten", true, TEN_NODES, desk -> desk.around(1023));
        Check.tells("around all of a ring", true, Desks.of(10, "01 12 23 34 45 56 67 78 89 90"),
            desk -> desk.around(1023));
        Check.tells("around all of the full desk", false, FULL, desk -> desk.around(1023));
        Check.tells("around a face of the full desk", true, FULL, desk -> desk.around(1 << 9 | 1 << 7 | 1));
        Check.tells("around the ring of the full desk", false, FULL, desk -> desk.around(255));
        Check.tells("around the two of the full desk", false, FULL, desk -> desk.around(1 << 8 | 1 << 9));
    }

    /** Promise 16 says 'there is a drawing': of a network that is not drawable there is none, for no set. */
    private static void aroundWhenNotDrawable() {
        Check.tells("around nothing", false, FIVE, desk -> desk.around(0));
        Check.tells("around one", false, FIVE, desk -> desk.around(16));
        Check.tells("around a lonely node", false, Desks.of(6, Desks.FIVE), desk -> desk.around(32));
        Check.tells("around nothing", false, SIX, desk -> desk.around(0));
        Check.tells("around nothing", false, TANGLED, desk -> desk.around(0));
        Check.tells("around all", false, TANGLED, desk -> desk.around(1023));
    }

    /** Promise 17: '3 when it is more than 2'. */
    private static void spare() {
        Check.tells("none", 0, FULL, PlanarSketch::spare);
        Check.tells("none of ten nodes", 0, TEN_NODES, PlanarSketch::spare);
        Check.tells("one", 1, FIVE, PlanarSketch::spare);
        Check.tells("one", 1, SIX, PlanarSketch::spare);
        Check.tells("two", 2, Desks.of(10, Desks.FIVE + " " + Desks.complete(5, 5)), PlanarSketch::spare);
        Check.tells("two", 2, Desks.of(10, Desks.PETERSEN), PlanarSketch::spare);
        Check.tells("three", 3, Desks.of(6, Desks.complete(0, 6)), PlanarSketch::spare);
        Check.tells("six", 3, Desks.of(7, Desks.complete(0, 7)), PlanarSketch::spare);
        Check.tells("more of a full desk", 3, TANGLED, PlanarSketch::spare);
    }

    /** Promise 18: none, one, ten. */
    private static void pieces() {
        Check.tells("pieces of one", 1, ONE_NODE, PlanarSketch::pieces);
        Check.tells("pieces of ten", 10, TEN_NODES, PlanarSketch::pieces);
        Check.tells("pieces of a full desk", 1, FULL, PlanarSketch::pieces);
        Check.tells("pieces of a full tangle", 3, TANGLED, PlanarSketch::pieces);
        Check.tells("pieces of five lines", 5, Desks.of(10, "09 18 27 36 45"), PlanarSketch::pieces);
    }

    /** Promise 19: each line of a full desk, and lines with the least and the greatest number. */
    private static void bridge() {
        for (int l = 0; l < 24; l++) {
            int line = l;
            Check.tells("bridge " + l, false, FULL, desk -> desk.bridge(line));
        }
        PlanarSketch desk = Desks.with(10, "89 " + Desks.complete(0, 7) + " 07");
        Check.same("line 23", 23, desk.line(7, 8));
        Check.same("bridge 0", true, desk.bridge(0));
        Check.same("bridge 21", false, desk.bridge(21));
        Check.same("bridge 22", true, desk.bridge(22));
        Check.same("bridge 23", true, desk.bridge(23));
    }

    /** Promise 20: the least and the greatest node, joined to all others or to none. */
    private static void hinge() {
        for (int i = 0; i < 10; i++) {
            int node = i;
            Check.tells("hinge " + i + " of lonely nodes", false, TEN_NODES, desk -> desk.hinge(node));
            Check.tells("hinge " + i + " of a full desk", false, FULL, desk -> desk.hinge(node));
            Check.tells("hinge " + i + " of a star of 0", i == 0, Desks.of(10, "01 02 03 04 05 06 07 08 09"),
                desk -> desk.hinge(node));
            Check.tells("hinge " + i + " of a way", i != 0 && i != 9, Desks.of(10, "01 12 23 34 45 56 67 78 89"),
                desk -> desk.hinge(node));
        }
    }

    /** Promise 21: none, one, and as many as 24 lines can ask for. */
    private static void colours() {
        Check.tells("colours of one", 1, ONE_NODE, PlanarSketch::colours);
        Check.tells("colours of ten", 1, TEN_NODES, PlanarSketch::colours);
        Check.tells("colours of a full desk", 3, FULL, PlanarSketch::colours);
        for (int count = 2; count <= 7; count++) {
            Check.tells("colours of all joined", count, Desks.of(10, Desks.complete(10 - count, count)),
                PlanarSketch::colours);
        }
        Check.tells("colours of a full tangle", 7, TANGLED, PlanarSketch::colours);
    }

    /** Promise 22: the least and the greatest node, the least and the greatest number. */
    private static void colour() {
        Check.tells("colour of the only node", 0, ONE_NODE, desk -> desk.colour(0));
        for (int i = 0; i < 10; i++) {
            int node = i;
            Check.tells("colour of a lonely node", 0, TEN_NODES, desk -> desk.colour(node));
            Check.tells("colour of " + i + " in a full desk", i > 7 ? 2 : i % 2, FULL, desk -> desk.colour(node));
            Check.tells("colour of " + i + " in a full tangle", i < 7 ? i : i == 7 ? 3 : 0, TANGLED,
                desk -> desk.colour(node));
        }
        Check.tells("the greatest number at the greatest node", 6, Desks.of(10, Desks.complete(3, 7)),
            desk -> desk.colour(9));
    }

    /** Promise 23: 'x or y is not 0 .. 30' are refused, these are not; and the greatest counts of wrong pairs. */
    private static void place() {
        for (int i : new int[] {0, 9}) {
            for (int x : new int[] {0, 1, 29, 30}) {
                for (int y : new int[] {0, 1, 29, 30}) {
                    PlanarSketch desk = new PlanarSketch();
                    Check.same("place", 0, desk.place(i, x, y));
                    Check.same("placed", x + " " + y, desk.at(i, 0) + " " + desk.at(i, 1));
                    Check.same("others stay", "0 0", desk.at(9 - i, 0) + " " + desk.at(9 - i, 1));
                }
            }
        }
        // all pairs of lines but those with a common end
        Check.tells("a full drawing on one spot", 276 - 8 * 6 - 2 * 28, FULL, desk -> desk.place(0, 0, 0));
        Check.tells("a full tangle on one spot", 276 - 3 * 21 - 4 * 15 - 3, TANGLED, desk -> desk.place(9, 0, 0));
        Check.same("one line meets no other", 0, Desks.with(2, "01").place(1, 30, 30));
        Check.same("a node not there counts for nothing", 0, Desks.with(2, "01").place(2, 0, 0));
    }

    /** Promise 24: all nodes, both axes, all that can be told. */
    private static void at() {
        PlanarSketch desk = new PlanarSketch();
        for (int i = 0; i < 10; i++) {
            for (int v = 0; v <= 30; v += 10) {
                desk.place(i, v, 30 - v);
                Check.same("x of " + i, v, desk.at(i, 0));
                Check.same("y of " + i, 30 - v, desk.at(i, 1));
            }
        }
    }

    /** Promise 25: the least and the greatest number, asked either way; lines across the whole desk. */
    private static void meets() {
        PlanarSketch desk = FULL.make();
        Check.same("on one spot, a common end", false, desk.meets(0, 8));
        Check.same("on one spot, no common end", true, desk.meets(0, 23));
        Check.same("on one spot, turned", true, desk.meets(23, 0));
        PlanarSketch wide = Desks.with(4, "01 23");
        Desks.place(wide, 0, 0, 30, 30, 0, 30, 30, 0);
        Check.same("across the whole desk", true, wide.meets(0, 1));
        Desks.place(wide, 0, 0, 30, 29, 0, 1, 30, 30);
        Check.same("beside one another, nearly as near as can be", false, wide.meets(1, 0));
        Desks.place(wide, 0, 0, 30, 29, 1, 1, 30, 30);
        Check.same("nearer still", false, wide.meets(1, 0));
        Desks.place(wide, 0, 0, 30, 29, 29, 28, 30, 28);
        Check.same("an end just off the line", false, wide.meets(0, 1));
        Desks.place(wide, 0, 0, 30, 28, 15, 14, 30, 30);
        Check.same("an end just on the line", true, wide.meets(0, 1));
    }

    /** Promise 26: none, all. */
    private static void wrong() {
        Check.tells("the only node", 0, ONE_NODE, PlanarSketch::wrong);
        Check.tells("two on one spot", 2, Desks.of(2, ""), PlanarSketch::wrong);
        Check.tells("ten on one spot", 10, TEN_NODES, PlanarSketch::wrong);
        Check.tells("a full desk on one spot", 10, FULL, PlanarSketch::wrong);
        PlanarSketch row = Desks.with(10, "09");
        for (int i = 0; i < 10; i++) {
            row.place(i, 3 * i, 27 - 3 * i);
        }
        Check.same("eight on a line", 8, row.wrong());
        row.drop(9);
        Check.same("none when the line is gone", 0, row.wrong());
    }

    /** Promise 27: 'no two lines meet wrongly, and no node lies wrongly': each alone is enough against it. */
    private static void flat() {
        Check.tells("the only node", true, ONE_NODE, PlanarSketch::flat);
        Check.tells("two on one spot", false, Desks.of(2, ""), PlanarSketch::flat);
        PlanarSketch crossed = Desks.with(4, "01 23");
        Desks.place(crossed, 0, 0, 1, 1, 0, 1, 1, 0);
        Check.same("no node lies wrongly", 0, crossed.wrong());
        Check.same("but two lines meet", false, crossed.flat());
        PlanarSketch touched = Desks.with(3, "01");
        Desks.place(touched, 0, 0, 2, 2, 1, 1);
        Check.same("no two lines meet", 0, touched.place(2, 1, 1));
        Check.same("but a node lies wrongly", false, touched.flat());
        touched.place(2, 2, 1);
        Check.same("neither", true, touched.flat());
        PlanarSketch both = Desks.with(4, "01 23");
        Check.same("both", false, both.flat());
    }

    /** Promise 28: '0 when there are none', 1 without an area, and the greatest box. */
    private static void box() {
        Check.tells("one node", 1, ONE_NODE, PlanarSketch::box);
        Check.tells("ten on one spot", 1, TEN_NODES, PlanarSketch::box);
        PlanarSketch desk = Desks.with(2, "");
        desk.place(1, 30, 0);
        Check.same("no height", 1, desk.box());
        desk.place(1, 0, 30);
        Check.same("no width", 1, desk.box());
        desk.place(1, 1, 1);
        Check.same("the least area", 3, desk.box());
        desk.place(1, 30, 30);
        Check.same("the greatest area", 1801, desk.box());
        desk.place(0, 30, 29);
        desk.place(1, 29, 30);
        Check.same("the least area in the far corner", 3, desk.box());
        desk.place(5, 0, 0);
        Check.same("a node not there does not count", 3, desk.box());
        desk.drop(0);
        Check.same("one is left", 1, desk.box());
        desk.drop(1);
        Check.same("none is left", 0, desk.box());
    }
}
