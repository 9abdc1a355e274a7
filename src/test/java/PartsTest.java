/** Promises 18 to 22: how a network falls apart, and its least colouring. */
public final class PartsTest {
    public static void main(String[] args) {
        pieces();
        bridge();
        hinge();
        colours();
        colour();
        leastOfSeveral();
        Check.finish("PartsTest");
    }

    private static void pieces() {
        Check.same("pieces of nothing", 0, new PlanarSketch().pieces());
        Check.same("pieces of ten", 10, Desks.with(10, "").pieces());
        PlanarSketch desk = Desks.with(10, "09 98 87 12 23 31");
        Check.same("pieces", 5, desk.pieces());
        desk.drop(9);
        Check.same("pieces after drop", 6, desk.pieces());
        desk.drop(4);
        Check.same("pieces after drop of a lonely one", 5, desk.pieces());
        Check.same("one long way", 1, Desks.with(10, "09 91 18 82 27 73 36 64 45").pieces());
    }

    private static void bridge() {
        PlanarSketch desk = Desks.with(7, "01 12 20 23 34 45 53");
        Check.same("line of a ring", false, desk.bridge(0));
        Check.same("line between rings", true, desk.bridge(3));
        Check.same("line of the other ring", false, desk.bridge(6));
        desk.cut(0);
        Check.same("line of a ring that was cut", true, desk.bridge(1));
        Check.same("bridge changes no lines", 126, desk.lines());
    }

    private static void hinge() {
        PlanarSketch desk = Desks.with(8, "01 12 20 23 34 45 53");
        boolean[] due = {false, false, true, true, false, false, false, false};
        for (int i = 0; i < due.length; i++) {
            Check.same("hinge " + i, due[i], desk.hinge(i));
        }
        PlanarSketch star = Desks.with(4, "30 31 32");
        Check.same("middle of a star", true, star.hinge(3));
        Check.same("end of a star", false, star.hinge(0));
        Check.same("end of a lonely line", false, Desks.with(2, "01").hinge(0));
        Check.same("hinge changes nothing", 15, star.nodes());
    }

    private static void colours() {
        Check.same("colours of nothing", 0, new PlanarSketch().colours());
        Check.same("colours of lonely nodes", 1, Desks.with(10, "").colours());
        Check.same("colours of a line", 2, Desks.with(3, "02").colours());
        Check.same("colours of an even ring", 2, Desks.with(6, "01 12 23 34 45 50").colours());
        Check.same("colours of an odd ring", 3, Desks.with(5, "01 12 23 34 40").colours());
        Check.same("colours of K7", 7, Desks.with(10, Desks.complete(3, 7)).colours());
        Check.same("colours of Petersen", 3,
            Desks.with(10, Desks.PETERSEN).colours());
        Check.same("colours of an odd wheel", 4, Desks.with(6, "01 12 23 34 40 50 51 52 53 54").colours());
        PlanarSketch desk = Desks.with(7, Desks.complete(0, 7));
        desk.drop(0);
        desk.drop(6);
        Check.same("colours after drops", 5, desk.colours());
    }

    private static void colour() {
        PlanarSketch desk = Desks.with(9, "02 24 46 61 13");
        desk.drop(5);
        checkColours(desk, 0, 0, 1, 1, 0, -1, 1, 0, 0);
    }

    private static void checkColours(PlanarSketch desk, int... due) {
        for (int i = 0; i < due.length; i++) {
            if (due[i] >= 0) {
                Check.same("colour of " + i, due[i], desk.colour(i));
            }
        }
    }

    private static void leastOfSeveral() {
        // taking the least free number for each node in turn would need three numbers here
        checkColours(Desks.with(4, "02 23 31"), 0, 1, 1, 0);
        // a first number that has to be taken back later
        checkColours(Desks.with(6, "02 12 13 34 05 45"), 0, 0, 1, 1, 0, 1);
        checkColours(Desks.with(6, "03 14 25 34 45 53"), 0, 0, 1, 1, 2, 0);
        checkColours(Desks.with(5, Desks.complete(0, 5)), 0, 1, 2, 3, 4);
        checkColours(Desks.with(5, "01 12 23 34 40"), 0, 1, 0, 1, 2);
    }
}
