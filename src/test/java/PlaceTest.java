/** Promises 23 to 28: the drawing with straight lines. */
public final class PlaceTest {
    public static void main(String[] args) {
        place();
        at();
        meetsApart();
        meetsAtSharedEnd();
        meetsWithLinesThatArePoints();
        wrong();
        flat();
        box();
        Check.finish("PlaceTest");
    }

    private static void place() {
        PlanarSketch desk = Desks.with(6, "01 23 45");
        Check.same("three lines on one spot", 3, desk.place(9, 1, 2));
        Check.same("place", 3, desk.place(1, 30, 30));
        Check.same("place", 3, desk.place(2, 0, 30));
        Check.same("place", 2, desk.place(3, 30, 0));
        Check.same("place", 2, desk.place(4, 0, 15));
        Check.same("place", 3, desk.place(5, 30, 15));
        Check.same("place away", 1, desk.place(3, 5, 28));
        Check.same("place away", 0, desk.place(4, 30, 0));
        Check.same("a node not there moves nothing", 0, desk.place(8, 15, 15));
        Check.same("its place is kept", 15, desk.at(8, 0));
    }

    private static void at() {
        PlanarSketch desk = new PlanarSketch();
        desk.place(0, 30, 0);
        desk.place(9, 0, 30);
        Check.same("at", 30, desk.at(0, 0));
        Check.same("at", 0, desk.at(0, 1));
        Check.same("at", 0, desk.at(9, 0));
        Check.same("at", 30, desk.at(9, 1));
    }

    /** Whether the lines 0-1 and 2-3 meet wrongly at these places; asked in every order. */
    private static void checkApart(String what, boolean due, int... places) {
        String[] lines = {"01 23", "32 10", "23 01", "10 23"};
        for (String written : lines) {
            PlanarSketch desk = Desks.with(4, written);
            Desks.place(desk, places);
            Check.same(what, due, desk.meets(0, 1));
            Check.same(what + ", turned", due, desk.meets(1, 0));
        }
    }

    private static void meetsApart() {
        checkApart("a cross", true, 0, 0, 10, 10, 0, 10, 10, 0);
        checkApart("a cross off the whole numbers", true, 0, 0, 3, 1, 0, 1, 3, 0);
        checkApart("a T", true, 0, 0, 10, 0, 5, 0, 5, 5);
        checkApart("a T that falls short", false, 0, 0, 10, 0, 5, 1, 5, 5);
        checkApart("an L of four nodes", true, 0, 0, 10, 0, 10, 0, 10, 7);
        checkApart("beside one another", false, 0, 0, 10, 0, 0, 1, 10, 1);
        checkApart("in line, with a gap", false, 0, 0, 4, 4, 5, 5, 9, 9);
        checkApart("in line, end to end", true, 0, 0, 4, 4, 4, 4, 9, 9);
        checkApart("in line, over one another", true, 0, 0, 6, 6, 4, 4, 9, 9);
        checkApart("in line, one within the other", true, 0, 0, 9, 9, 4, 4, 5, 5);
        checkApart("upright in line, with a gap", false, 3, 0, 3, 4, 3, 5, 3, 9);
        checkApart("upright in line, over one another", true, 3, 0, 3, 6, 3, 5, 3, 9);
        checkApart("the same places", true, 2, 3, 7, 8, 7, 8, 2, 3);
        checkApart("boxes overlap, lines do not", false, 0, 0, 10, 10, 6, 0, 10, 5);
        checkApart("one would meet if it were longer", false, 0, 0, 30, 30, 30, 0, 16, 15);
        checkApart("a near miss on the grid", false, 0, 0, 30, 29, 1, 1, 29, 29);
        checkApart("a hit at one end", true, 0, 0, 30, 30, 30, 0, 15, 15);
    }

    /** Whether the lines 0-1 and 0-2 meet wrongly. */
    private static void checkShared(String what, boolean due, int... places) {
        for (String written : new String[] {"01 02", "02 01", "10 20", "01 20"}) {
            PlanarSketch desk = Desks.with(3, written);
            Desks.place(desk, places);
            Check.same(what, due, desk.meets(0, 1));
            Check.same(what + ", turned", due, desk.meets(1, 0));
        }
        // the shared node may be the greater or the middle one too
        PlanarSketch last = Desks.with(3, "20 21");
        desk(last, places, 2, 0, 1);
        Check.same(what + ", last shared", due, last.meets(0, 1));
        PlanarSketch middle = Desks.with(3, "10 12");
        desk(middle, places, 1, 0, 2);
        Check.same(what + ", middle shared", due, middle.meets(0, 1));
    }

    private static void desk(PlanarSketch desk, int[] places, int... nodes) {
        for (int k = 0; k < nodes.length; k++) {
            desk.place(nodes[k], places[2 * k], places[2 * k + 1]);
        }
    }

    private static void meetsAtSharedEnd() {
        checkShared("a corner", false, 5, 5, 9, 5, 5, 9);
        checkShared("straight through", false, 5, 5, 9, 9, 1, 1);
        checkShared("back over itself, farther", true, 5, 5, 9, 9, 7, 7);
        checkShared("back over itself, all of it", true, 5, 5, 9, 9, 9, 9);
        checkShared("back over itself, upright", true, 5, 5, 5, 9, 5, 6);
        checkShared("nearly back over itself", false, 0, 0, 30, 30, 29, 30);
    }

    private static void meetsWithLinesThatArePoints() {
        checkApart("a point on a line", true, 5, 5, 5, 5, 0, 0, 10, 10);
        checkApart("a point off a line", false, 5, 6, 5, 6, 0, 0, 10, 10);
        checkApart("a point in line, beyond the end", false, 11, 11, 11, 11, 0, 0, 10, 10);
        checkApart("a point at an end", true, 10, 10, 10, 10, 0, 0, 10, 10);
        checkApart("a point on a point", true, 4, 4, 4, 4, 4, 4, 4, 4);
        checkApart("a point beside a point", false, 4, 4, 4, 4, 4, 5, 4, 5);
        checkShared("a point at the shared end", false, 3, 3, 3, 3, 8, 8);
        checkShared("two points at the shared end", false, 3, 3, 3, 3, 3, 3);
    }

    private static void wrong() {
        Check.same("wrong of nothing", 0, new PlanarSketch().wrong());
        Check.same("one node, others not there at its place", 0, Desks.with(1, "").wrong());
        Check.same("all on one spot", 10, Desks.with(10, "").wrong());
        PlanarSketch desk = Desks.with(4, "01");
        Desks.place(desk, 0, 0, 12, 6, 4, 2, 4, 3);
        Check.same("a node on a line", 1, desk.wrong());
        Check.same("a node not there on a line", 0, desk.place(5, 2, 1));
        Check.same("a node not there on a line", 1, desk.wrong());
        desk.node(5);
        Check.same("two nodes on a line", 2, desk.wrong());
        desk.place(3, 14, 7);
        Check.same("a node in line, beyond the end", 2, desk.wrong());
        desk.place(3, 12, 6);
        Check.same("a node at the end's place: both", 4, desk.wrong());
        desk.line(1, 3);
        Check.same("joined nodes on one spot", 4, desk.wrong());
        desk.cut(0);
        Check.same("the line goes", 2, desk.wrong());
        desk.drop(3);
        Check.same("the other node goes", 0, desk.wrong());
    }

    private static void flat() {
        Check.same("flat nothing", true, new PlanarSketch().flat());
        Check.same("flat node", true, Desks.with(1, "").flat());
        Check.same("two nodes on one spot", false, Desks.with(2, "").flat());
        PlanarSketch desk = Desks.with(5, "01 23");
        Desks.place(desk, 0, 0, 9, 9, 0, 8, 8, 0, 20, 20);
        Check.same("a crossing without a wrong node", 0, desk.wrong());
        Check.same("a crossing", false, desk.flat());
        desk.place(3, 0, 20);
        Check.same("no crossing", true, desk.flat());
        desk.place(4, 3, 3);
        Check.same("a wrong node without a crossing", 0, desk.place(4, 3, 3));
        Check.same("a wrong node", false, desk.flat());
    }

    private static void box() {
        Check.same("box of nothing", 0, new PlanarSketch().box());
        Check.same("box of a node", 1, Desks.with(1, "").box());
        PlanarSketch desk = Desks.with(3, "");
        Desks.place(desk, 5, 6, 15, 6, 8, 6);
        Check.same("box without height", 1, desk.box());
        desk.place(2, 8, 9);
        Check.same("box", 61, desk.box());
        desk.place(7, 30, 30);
        Check.same("box without a node not there", 61, desk.box());
        desk.node(7);
        Check.same("box with it", 2 * 25 * 24 + 1, desk.box());
        desk.node(9);
        Check.same("the greatest box", 1801, desk.box());
    }
}
