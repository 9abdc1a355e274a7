/** Promises 2 to 8 and ordinary calls: nodes and lines come and go. */
public final class NetworkTest {
    public static void main(String[] args) {
        node();
        line();
        cut();
        drop();
        end();
        objectsAreApart();
        Check.finish("NetworkTest");
    }

    private static void node() {
        PlanarSketch desk = new PlanarSketch();
        Check.same("node(9)", 1, desk.node(9));
        Check.same("node(0)", 2, desk.node(0));
        Check.same("nodes", 0x201, desk.nodes());
        for (int i = 1; i < 9; i++) {
            Check.same("node", i + 2, desk.node(i));
        }
        Check.same("all nodes", 1023, desk.nodes());
        desk.drop(4);
        Check.same("nodes after drop", 1023 - 16, desk.nodes());
        Check.same("node again", 10, desk.node(4));
    }

    private static void line() {
        PlanarSketch desk = Desks.with(5, "");
        Check.same("first line", 0, desk.line(3, 1));
        Check.same("second line", 1, desk.line(0, 4));
        Check.same("third line", 2, desk.line(1, 0));
        Check.same("lines", 7, desk.lines());
        desk.cut(1);
        desk.cut(0);
        Check.same("least free number", 0, desk.line(2, 3));
        Check.same("next free number", 1, desk.line(2, 4));
        Check.same("number behind", 3, desk.line(0, 4));
    }

    private static void cut() {
        PlanarSketch desk = Desks.with(4, "01 02 03");
        Check.same("cut", 2, desk.cut(1));
        Check.same("lines after cut", 5, desk.lines());
        Check.same("cut", 1, desk.cut(2));
        Check.same("cut the last", 0, desk.cut(0));
        Check.same("nodes stay", 15, desk.nodes());
    }

    private static void drop() {
        PlanarSketch desk = Desks.with(5, "01 12 23 31 20");
        desk.place(2, 7, 8);
        Check.same("drop a node of three lines", 3, desk.drop(2));
        Check.same("nodes after drop", 1 + 2 + 8 + 16, desk.nodes());
        Check.same("lines after drop", 1 + 8, desk.lines());
        Check.same("the place stays", 7, desk.at(2, 0));
        Check.same("the place stays", 8, desk.at(2, 1));
        Check.same("drop a lonely node", 0, desk.drop(4));
        desk.node(2);
        Check.same("a node comes back without lines", 1 + 8, desk.lines());
        Check.same("a number that went with the node", 1, desk.line(2, 0));
    }

    private static void end() {
        PlanarSketch desk = Desks.with(10, "90 45");
        Check.same("the less end", 0, desk.end(0, 0));
        Check.same("the other end", 9, desk.end(0, 1));
        Check.same("the less end", 4, desk.end(1, 0));
        Check.same("the other end", 5, desk.end(1, 1));
    }

    private static void objectsAreApart() {
        PlanarSketch one = Desks.with(3, "01");
        PlanarSketch other = new PlanarSketch();
        one.place(0, 3, 4);
        Check.same("nodes of the other", 0, other.nodes());
        Check.same("lines of the other", 0, other.lines());
        Check.same("places of the other", 0, other.at(0, 0));
        Check.same("box of the other", 0, other.box());
    }
}
