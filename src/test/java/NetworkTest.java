import java.util.NoSuchElementException;

/** Promises 1 to 8: nodes and lines come and go. */
public final class NetworkTest {
    private static final int[] NO_NODES = {-1, 10, 11, 32, 42, Integer.MIN_VALUE, Integer.MAX_VALUE};
    private static final int[] NO_LINES = {-1, 24, 25, 32, 33, Integer.MIN_VALUE, Integer.MAX_VALUE};

    public static void main(String[] args) {
        newObject();
        node();
        line();
        lineOfSeveralFaults();
        lineWhenFull();
        cut();
        drop();
        end();
        objectsAreApart();
        Check.finish("NetworkTest");
    }

    private static void newObject() {
        PlanarSketch desk = new PlanarSketch();
        Check.same("NONE", -1, PlanarSketch.NONE);
        Check.same("new nodes", 0, desk.nodes());
        Check.same("new lines", 0, desk.lines());
        for (int i = 0; i < 10; i++) {
            Check.same("new at x", 0, desk.at(i, 0));
            Check.same("new at y", 0, desk.at(i, 1));
        }
    }

    private static void node() {
        PlanarSketch desk = new PlanarSketch();
        Check.same("node(9)", 1, desk.node(9));
        Check.same("node(0)", 2, desk.node(0));
        Check.same("nodes", 0x201, desk.nodes());
        for (int i = 1; i < 9; i++) {
            Check.same("node", i + 2, desk.node(i));
        }
        Check.same("all nodes", 1023, desk.nodes());
        for (int i : NO_NODES) {
            Check.refuses("node out of bounds", IndexOutOfBoundsException.class, desk, () -> desk.node(i));
        }
        Check.refuses("node twice", IllegalStateException.class, desk, () -> desk.node(4));
        desk.drop(4);
        Check.same("nodes after drop", 1023 - 16, desk.nodes());
        Check.same("node again", 10, desk.node(4));
    }

    private static void line() {
        PlanarSketch desk = Desks.with(5, "");
        Check.same("first line", 0, desk.line(3, 1));
        Check.same("second line", 1, desk.line(0, 4));
        Check.same("third line", 2, desk.line(1, 0));
        Check.same("lines", 7, desk.lines());
        desk.cut(1);
        desk.cut(0);
        Check.same("least free number", 0, desk.line(2, 3));
        Check.same("next free number", 1, desk.line(2, 4));
        Check.same("number behind", 3, desk.line(0, 4));
        Check.refuses("line twice", IllegalStateException.class, desk, () -> desk.line(0, 1));
        Check.refuses("line twice, turned", IllegalStateException.class, desk, () -> desk.line(1, 0));
        Check.refuses("line to itself", IllegalArgumentException.class, desk, () -> desk.line(2, 2));
        Check.refuses("line to no node", NoSuchElementException.class, desk, () -> desk.line(2, 5));
        Check.refuses("line from no node", NoSuchElementException.class, desk, () -> desk.line(5, 2));
    }

    private static void lineOfSeveralFaults() {
        PlanarSketch desk = Desks.with(3, "01");
        for (int i : NO_NODES) {
            Check.refuses("line to no number", NoSuchElementException.class, desk, () -> desk.line(0, i));
            Check.refuses("line from no number", NoSuchElementException.class, desk, () -> desk.line(i, 0));
            Check.refuses("line between no numbers", NoSuchElementException.class, desk, () -> desk.line(i, i));
        }
        Check.refuses("same node, not there", NoSuchElementException.class, desk, () -> desk.line(7, 7));
    }

    private static void lineWhenFull() {
        PlanarSketch desk = Desks.with(10, Desks.complete(0, 7) + " 07 17 27");
        Check.same("24 lines", (1 << 24) - 1, desk.lines());
        Check.refuses("a 25th line", IllegalStateException.class, desk, () -> desk.line(8, 9));
        Check.refuses("same node when full", IllegalArgumentException.class, desk, () -> desk.line(8, 8));
        desk.drop(9);
        Check.refuses("no node when full", NoSuchElementException.class, desk, () -> desk.line(8, 9));
        Check.same("cut", 23, desk.cut(13));
        Check.same("the number that went", 13, desk.line(8, 7));
        desk.cut(23);
        Check.same("the last number", 23, desk.line(8, 6));
    }

    private static void cut() {
        PlanarSketch desk = Desks.with(4, "01 02 03");
        Check.same("cut", 2, desk.cut(1));
        Check.same("lines after cut", 5, desk.lines());
        Check.refuses("cut twice", NoSuchElementException.class, desk, () -> desk.cut(1));
        for (int l : NO_LINES) {
            Check.refuses("cut no line", NoSuchElementException.class, desk, () -> desk.cut(l));
        }
        Check.same("cut", 1, desk.cut(2));
        Check.same("cut the last", 0, desk.cut(0));
        Check.same("nodes stay", 15, desk.nodes());
    }

    private static void drop() {
        PlanarSketch desk = Desks.with(5, "01 12 23 31 20");
        desk.place(2, 7, 8);
        Check.same("drop a node of three lines", 3, desk.drop(2));
        Check.same("nodes after drop", 1 + 2 + 8 + 16, desk.nodes());
        Check.same("lines after drop", 1 + 8, desk.lines());
        Check.same("the place stays", 7, desk.at(2, 0));
        Check.same("the place stays", 8, desk.at(2, 1));
        Check.same("drop a lonely node", 0, desk.drop(4));
        Check.refuses("drop twice", NoSuchElementException.class, desk, () -> desk.drop(2));
        for (int i : NO_NODES) {
            Check.refuses("drop no node", NoSuchElementException.class, desk, () -> desk.drop(i));
        }
        desk.node(2);
        Check.same("a node comes back without lines", 1 + 8, desk.lines());
        Check.same("a number that went with the node", 1, desk.line(2, 0));
    }

    private static void end() {
        PlanarSketch desk = Desks.with(10, "90 45");
        Check.same("the less end", 0, desk.end(0, 0));
        Check.same("the other end", 9, desk.end(0, 1));
        Check.same("the less end", 4, desk.end(1, 0));
        Check.same("the other end", 5, desk.end(1, 1));
        for (int which : new int[] {-1, 2, 3, Integer.MIN_VALUE, Integer.MAX_VALUE}) {
            Check.refuses("no such end", IndexOutOfBoundsException.class, desk, () -> desk.end(0, which));
            Check.refuses("no such end of no line", NoSuchElementException.class, desk, () -> desk.end(2, which));
        }
        for (int l : NO_LINES) {
            Check.refuses("end of no line", NoSuchElementException.class, desk, () -> desk.end(l, 0));
        }
        desk.cut(0);
        Check.refuses("end of a line that went", NoSuchElementException.class, desk, () -> desk.end(0, 0));
    }

    private static void objectsAreApart() {
        PlanarSketch one = Desks.with(3, "01");
        PlanarSketch other = new PlanarSketch();
        one.place(0, 3, 4);
        Check.same("nodes of the other", 0, other.nodes());
        Check.same("lines of the other", 0, other.lines());
        Check.same("places of the other", 0, other.at(0, 0));
        Check.same("box of the other", 0, other.box());
    }
}
