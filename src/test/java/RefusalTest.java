import java.util.NoSuchElementException;

/**
 * The refused calls of promises 2 to 25, one test for each sentence of the document that tells when a call throws.
 * Of each the exception is looked at, and that the desk is as it was: 'A call that throws changes nothing'.
 */
public final class RefusalTest {
    private static final Class<IndexOutOfBoundsException> BOUNDS = IndexOutOfBoundsException.class;
    private static final Class<IllegalStateException> STATE = IllegalStateException.class;
    private static final Class<IllegalArgumentException> ARGUMENT = IllegalArgumentException.class;
    private static final Class<NoSuchElementException> MISSING = NoSuchElementException.class;

    public static void main(String[] args) {
        refusalsOfNode();
        refusalsOfLine();
        refusalsOfCut();
        refusalsOfDrop();
        refusalsOfEnd();
        refusalsOfCorner();
        refusalsOfFaces();
        refusalsOfCould();
        refusalsOfAround();
        refusalsOfBridge();
        refusalsOfHinge();
        refusalsOfColour();
        refusalsOfPlace();
        refusalsOfAt();
        refusalsOfMeets();
        Check.finish("RefusalTest");
    }

    private static boolean has(int set, int number) {
        return (set >> number & 1) != 0;
    }

    /** A call that asks for a node must be refused on desks of all kinds for every number that is not there. */
    private interface OfNumber {
        Object on(PlanarSketch desk, int number);
    }

    private static void refusesNodesNotThere(String what, OfNumber call) {
        for (Check.Maker maker : Desks.ofAllKinds()) {
            for (int i : Desks.NO_NODES) {
                Check.refuses(what + ", no node " + i, MISSING, maker, desk -> call.on(desk, i));
            }
            int there = maker.make().nodes();
            for (int i = 0; i < 10; i++) {
                int node = i;
                if (!has(there, i)) {
                    Check.refuses(what + ", not there " + i, MISSING, maker, desk -> call.on(desk, node));
                }
            }
        }
    }

    private static void refusesLinesNotThere(String what, OfNumber call) {
        for (Check.Maker maker : Desks.ofAllKinds()) {
            for (int l : Desks.NO_LINES) {
                Check.refuses(what + ", no line " + l, MISSING, maker, desk -> call.on(desk, l));
            }
            int there = maker.make().lines();
            for (int l = 0; l < 24; l++) {
                int line = l;
                if (!has(there, l)) {
                    Check.refuses(what + ", not there " + l, MISSING, maker, desk -> call.on(desk, line));
                }
            }
        }
    }

    private static void refusalsOfNode() {
        nodeIsNotANumber();
        nodeIsThere();
    }

    /** Promise 2: 'IndexOutOfBoundsException when it is not 0 .. 9'. */
    private static void nodeIsNotANumber() {
        for (Check.Maker maker : Desks.ofAllKinds()) {
            for (int i : Desks.NO_NODES) {
                Check.refuses("node(" + i + ")", BOUNDS, maker, desk -> desk.node(i));
            }
        }
    }

    /** Promise 2: 'IllegalStateException when it is there'. */
    private static void nodeIsThere() {
        for (int i = 0; i < 10; i++) {
            int node = i;
            Check.refuses("node " + i + " again", STATE, Desks.of(10, ""), desk -> desk.node(node));
            Check.refuses("node " + i + " again, with lines", STATE, Desks.of(10, Desks.FULL_DRAWABLE),
                desk -> desk.node(node));
        }
        Check.refuses("the only node again", STATE, Desks.of(1, ""), desk -> desk.node(0));
    }

    private static void refusalsOfLine() {
        refusesNodesNotThere("line from", (desk, i) -> desk.line(i, 1));
        refusesNodesNotThere("line to", (desk, i) -> desk.line(1, i));
        lineFromAndToNodesNotThere();
        lineOfANodeWithItself();
        lineWhereOneIs();
        lineWhenThereAre24();
        lineOfSeveralFaults();
    }

    /** Promise 3: 'NoSuchElementException when one is not there (or no node at all)'; here neither is there. */
    private static void lineFromAndToNodesNotThere() {
        for (int i : Desks.NO_NODES) {
            Check.refuses("line between no nodes", MISSING, Desks.of(2, "01"), desk -> desk.line(i, 7));
            Check.refuses("line between no nodes", MISSING, Desks.of(2, "01"), desk -> desk.line(7, i));
        }
        Check.refuses("line between nodes not there", MISSING, PlanarSketch::new, desk -> desk.line(0, 1));
    }

    /** Promise 3: 'IllegalArgumentException when they are the same'. */
    private static void lineOfANodeWithItself() {
        for (int i = 0; i < 10; i++) {
            int node = i;
            Check.refuses("line of " + i + " with itself", ARGUMENT, Desks.of(10, ""), desk -> desk.line(node, node));
        }
    }

    /** Promise 3: 'IllegalStateException when there is one between them', either way round. */
    private static void lineWhereOneIs() {
        Check.refuses("line again", STATE, Desks.of(10, "90 12"), desk -> desk.line(9, 0));
        Check.refuses("line again, turned", STATE, Desks.of(10, "90 12"), desk -> desk.line(0, 9));
        Check.refuses("line again", STATE, Desks.of(10, "90 12"), desk -> desk.line(1, 2));
        Check.refuses("line again, turned", STATE, Desks.of(10, "90 12"), desk -> desk.line(2, 1));
        Check.refuses("line again, of a great number", STATE, Desks::withGaps, desk -> desk.line(5, 2));
    }

    /** Promise 3: 'IllegalStateException when there is [...] 24 lines'. */
    private static void lineWhenThereAre24() {
        Check.refuses("a 25th line", STATE, Desks.of(10, Desks.FULL_DRAWABLE), desk -> desk.line(0, 2));
        Check.refuses("a 25th line", STATE, Desks.of(10, Desks.FULL_DRAWABLE), desk -> desk.line(8, 9));
        Check.refuses("a 25th line", STATE, Desks.of(10, Desks.FULL_TANGLED), desk -> desk.line(9, 8));
        Check.refuses("a 25th line where one is", STATE, Desks.of(10, Desks.FULL_TANGLED), desk -> desk.line(0, 1));
        Check.same("a 24th line", 23, Desks.with(10, Desks.complete(0, 7) + " 78 89").line(7, 9));
    }

    /** 'Of several exceptions the one that stands first in the throws clause is thrown', for line. */
    private static void lineOfSeveralFaults() {
        for (int i : Desks.NO_NODES) {
            Check.refuses("the same, no node", MISSING, Desks.of(3, "01"), desk -> desk.line(i, i));
            Check.refuses("no node, 24 lines", MISSING, Desks.of(10, Desks.FULL_TANGLED), desk -> desk.line(0, i));
            Check.refuses("all three", MISSING, Desks.of(10, Desks.FULL_TANGLED), desk -> desk.line(i, i));
        }
        Check.refuses("the same, not there", MISSING, Desks.of(3, "01"), desk -> desk.line(7, 7));
        Check.refuses("not there, 24 lines", MISSING, Desks.of(8, Desks.FULL_TANGLED), desk -> desk.line(9, 0));
        Check.refuses("the same, not there, 24 lines", MISSING, Desks.of(8, Desks.FULL_TANGLED),
            desk -> desk.line(9, 9));
        Check.refuses("the same, 24 lines", ARGUMENT, Desks.of(10, Desks.FULL_TANGLED), desk -> desk.line(9, 9));
        Check.refuses("the same, 24 lines", ARGUMENT, Desks.of(10, Desks.FULL_TANGLED), desk -> desk.line(0, 0));
    }

    /** Promise 4: 'NoSuchElementException when it is not there': never, no more, or no line's number. */
    private static void refusalsOfCut() {
        refusesLinesNotThere("cut", PlanarSketch::cut);
        Check.refuses("cut again", MISSING, () -> {
            PlanarSketch desk = Desks.with(3, "01 12");
            desk.cut(0);
            return desk;
        }, desk -> desk.cut(0));
        Check.refuses("cut a line that went with its node", MISSING, () -> {
            PlanarSketch desk = Desks.with(3, "01 12");
            desk.drop(2);
            return desk;
        }, desk -> desk.cut(1));
    }

    /** Promise 5: 'NoSuchElementException when it is not there': never, no more, or no node's number. */
    private static void refusalsOfDrop() {
        refusesNodesNotThere("drop", PlanarSketch::drop);
        Check.refuses("drop again", MISSING, () -> {
            PlanarSketch desk = Desks.with(3, "01 12");
            desk.drop(1);
            return desk;
        }, desk -> desk.drop(1));
    }

    private static void refusalsOfEnd() {
        refusesLinesNotThere("end 0", (desk, l) -> desk.end(l, 0));
        refusesLinesNotThere("end 1", (desk, l) -> desk.end(l, 1));
        endOfAnotherNumber();
        endOfSeveralFaults();
    }

    /** Promise 8: 'IndexOutOfBoundsException when which is another number'. */
    private static void endOfAnotherNumber() {
        for (int which : Desks.NEITHER_0_NOR_1) {
            Check.refuses("end " + which, BOUNDS, Desks.of(2, "01"), desk -> desk.end(0, which));
            Check.refuses("end " + which, BOUNDS, Desks.of(10, Desks.FULL_DRAWABLE), desk -> desk.end(23, which));
        }
    }

    /** 'Of several exceptions the one that stands first', for end. */
    private static void endOfSeveralFaults() {
        for (int which : Desks.NEITHER_0_NOR_1) {
            refusesLinesNotThere("end " + which, (desk, l) -> desk.end(l, which));
        }
    }

    private static void refusalsOfCorner() {
        cornerOfADrawableNetwork();
        cornerThatIsNone();
    }

    /** Promise 12: 'IllegalStateException when the network is drawable', whatever k is: it stands first. */
    private static void cornerOfADrawableNetwork() {
        int[] all = {0, 1, 2, 3, 4, 5, 6, 9, -1, Integer.MIN_VALUE, Integer.MAX_VALUE};
        for (int k : all) {
            Check.refuses("corner of nothing", STATE, PlanarSketch::new, desk -> desk.corner(k));
            Check.refuses("corner of a full drawing", STATE, Desks.of(10, Desks.FULL_DRAWABLE), desk -> desk.corner(k));
            Check.refuses("corner of K5 less a line", STATE, () -> {
                PlanarSketch desk = Desks.with(5, Desks.FIVE);
                desk.cut(7);
                return desk;
            }, desk -> desk.corner(k));
        }
    }

    /** Promise 12: 'IndexOutOfBoundsException when there are not so many'. */
    private static void cornerThatIsNone() {
        for (int k : new int[] {-1, 6, 7, 9, 10, 32, -32, 256, Integer.MIN_VALUE, Integer.MAX_VALUE}) {
            Check.refuses("corner " + k + " of five", BOUNDS, Desks.of(5, Desks.FIVE), desk -> desk.corner(k));
            Check.refuses("corner " + k + " of six", BOUNDS, Desks.of(6, Desks.THREE_BY_THREE),
                desk -> desk.corner(k));
            Check.refuses("corner " + k + " of a full desk", BOUNDS, Desks.of(10, Desks.FULL_TANGLED),
                desk -> desk.corner(k));
        }
        Check.refuses("a sixth corner of five", BOUNDS, Desks.of(5, Desks.FIVE), desk -> desk.corner(5));
        Check.tells("the fifth corner of five", 4, Desks.of(5, Desks.FIVE), desk -> desk.corner(4));
        Check.tells("the sixth corner of six", 5, Desks.of(6, Desks.THREE_BY_THREE), desk -> desk.corner(5));
    }

    /** Promise 13: 'IllegalStateException when the network is not drawable'. */
    private static void refusalsOfFaces() {
        Check.refuses("faces of K5", STATE, Desks.of(5, Desks.FIVE), PlanarSketch::faces);
        Check.refuses("faces of K3,3", STATE, Desks.of(6, Desks.THREE_BY_THREE), PlanarSketch::faces);
        Check.refuses("faces of Petersen", STATE, Desks.of(10, Desks.PETERSEN), PlanarSketch::faces);
        Check.refuses("faces of a full tangle", STATE, Desks.of(10, Desks.FULL_TANGLED), PlanarSketch::faces);
    }

    private static void refusalsOfCould() {
        refusesNodesNotThere("could from", (desk, i) -> desk.could(i, 1));
        refusesNodesNotThere("could to", (desk, i) -> desk.could(1, i));
        refusesNodesNotThere("could, the same and not there", (desk, i) -> desk.could(i, i));
        couldOfANodeWithItself();
        couldWhereALineIs();
    }

    /** Promise 14: 'IllegalArgumentException when they are the same'. */
    private static void couldOfANodeWithItself() {
        for (int i = 0; i < 10; i++) {
            int node = i;
            Check.refuses("could " + i + " with itself", ARGUMENT, Desks.of(10, ""), desk -> desk.could(node, node));
            Check.refuses("could " + i + " with itself when full", ARGUMENT, Desks.of(10, Desks.FULL_TANGLED),
                desk -> desk.could(node, node));
        }
    }

    /** Promise 14: 'IllegalArgumentException when they [...] have one', either way round. */
    private static void couldWhereALineIs() {
        Check.refuses("could where a line is", ARGUMENT, Desks.of(10, "90 12"), desk -> desk.could(9, 0));
        Check.refuses("could where a line is, turned", ARGUMENT, Desks.of(10, "90 12"), desk -> desk.could(0, 9));
        Check.refuses("could where line 23 is", ARGUMENT, Desks.of(10, Desks.FULL_DRAWABLE), desk -> desk.could(9, 7));
        Check.refuses("could in K5", ARGUMENT, Desks.of(5, Desks.FIVE), desk -> desk.could(3, 4));
    }

    /** Promise 16: 'NoSuchElementException when one of them is not there', be it the only one or one of many. */
    private static void refusalsOfAround() {
        for (Check.Maker maker : Desks.ofAllKinds()) {
            int there = maker.make().nodes();
            for (int i = 0; i < 32; i++) {
                int bit = 1 << i;
                if ((there & bit) == 0) {
                    Check.refuses("around node " + i + " alone", MISSING, maker, desk -> desk.around(bit));
                    Check.refuses("around all and node " + i, MISSING, maker, desk -> desk.around(there | bit));
                }
            }
            Check.refuses("around all bits", MISSING, maker, desk -> desk.around(-1));
            Check.refuses("around all but the sign", MISSING, maker, desk -> desk.around(Integer.MAX_VALUE));
        }
    }

    /** Promise 19: 'NoSuchElementException when it is not there'. */
    private static void refusalsOfBridge() {
        refusesLinesNotThere("bridge", PlanarSketch::bridge);
    }

    /** Promise 20: 'NoSuchElementException when it is not there'. */
    private static void refusalsOfHinge() {
        refusesNodesNotThere("hinge", PlanarSketch::hinge);
    }

    /** Promise 22: 'NoSuchElementException when it is not there'. */
    private static void refusalsOfColour() {
        refusesNodesNotThere("colour", PlanarSketch::colour);
    }

    private static void refusalsOfPlace() {
        placeOfNoNode();
        placeThatIsNone();
    }

    /** Promise 23: 'IndexOutOfBoundsException when it is not 0 .. 9'; it stands first, be the place one or none. */
    private static void placeOfNoNode() {
        for (Check.Maker maker : Desks.ofAllKinds()) {
            for (int i : Desks.NO_NODES) {
                Check.refuses("place " + i, BOUNDS, maker, desk -> desk.place(i, 1, 2));
                Check.refuses("place " + i + " nowhere", BOUNDS, maker, desk -> desk.place(i, 31, 2));
                Check.refuses("place " + i + " nowhere", BOUNDS, maker, desk -> desk.place(i, 1, -1));
            }
        }
    }

    /** Promise 23: 'IllegalArgumentException when x or y is not 0 .. 30'; it is so for nodes that are not there too. */
    private static void placeThatIsNone() {
        int[] beyond = {-1, 31, 32, -30, 62, 64, 256, 1 << 16, Integer.MIN_VALUE, Integer.MAX_VALUE};
        for (Check.Maker maker : Desks.ofAllKinds()) {
            for (int far : beyond) {
                Check.refuses("x of " + far, ARGUMENT, maker, desk -> desk.place(0, far, 0));
                Check.refuses("x of " + far, ARGUMENT, maker, desk -> desk.place(9, far, 30));
                Check.refuses("y of " + far, ARGUMENT, maker, desk -> desk.place(0, 0, far));
                Check.refuses("y of " + far, ARGUMENT, maker, desk -> desk.place(9, 30, far));
                Check.refuses("x and y of " + far, ARGUMENT, maker, desk -> desk.place(5, far, far));
            }
        }
    }

    /** Promise 24: 'IndexOutOfBoundsException when there is no such node or axis'; a node not there has a place too. */
    private static void refusalsOfAt() {
        for (Check.Maker maker : Desks.ofAllKinds()) {
            for (int i : Desks.NO_NODES) {
                Check.refuses("at " + i + ", x", BOUNDS, maker, desk -> desk.at(i, 0));
                Check.refuses("at " + i + ", y", BOUNDS, maker, desk -> desk.at(i, 1));
                Check.refuses("at " + i + ", no axis", BOUNDS, maker, desk -> desk.at(i, 2));
            }
            for (int axis : Desks.NEITHER_0_NOR_1) {
                Check.refuses("at 0, axis " + axis, BOUNDS, maker, desk -> desk.at(0, axis));
                Check.refuses("at 9, axis " + axis, BOUNDS, maker, desk -> desk.at(9, axis));
            }
        }
    }

    private static void refusalsOfMeets() {
        refusesLinesNotThere("meets", (desk, l) -> desk.meets(l, 1));
        refusesLinesNotThere("meets, turned", (desk, l) -> desk.meets(1, l));
        refusesLinesNotThere("meets, the same and not there", (desk, l) -> desk.meets(l, l));
        meetsOfALineWithItself();
    }

    /** Promise 25: 'IllegalArgumentException when they are the same'. */
    private static void meetsOfALineWithItself() {
        for (int l = 0; l < 24; l++) {
            int line = l;
            Check.refuses("line " + l + " with itself", ARGUMENT, Desks.of(10, Desks.FULL_DRAWABLE),
                desk -> desk.meets(line, line));
        }
        Check.refuses("the only line with itself", ARGUMENT, Desks.of(2, "01"), desk -> desk.meets(0, 0));
    }
}
