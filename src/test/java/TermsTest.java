/** The sections 'What it is' and 'Terms', one test for each sentence that names a bound or an edge. */
public final class TermsTest {
    public static void main(String[] args) {
        usedFor512Calls();
        refusedCallsCountToo();
        nodesAreSomeOf0To9();
        linesHaveNumbers0To23();
        linesAreBetweenNodesThatAreThere();
        noTwoLinesBetweenTheSame();
        leastFreeNumber();
        leastFreeNumberOfSeveral();
        linesMeetAtNodesAlone();
        outsideIsAFace();
        witnessLeavesOutByNumber();
        witnessLeavesOutForGood();
        waysHaveNothingInCommon();
        cornersHaveThreeLinesOfThePattern();
        aNodeIsInAPieceWithItself();
        bridgeMakesMorePieces();
        hingeIsAboutTheOthers();
        colouringHasNumbersFrom0On();
        leastColouringHasTheFewest();
        leastColouringIsLeastByNode();
        leastColouringLeavesOutNodesNotThere();
        allTenNodesHavePlaces();
        placesAreKept();
        straightLinesHaveTheirEnds();
        sharedEndIsNoWrongMeeting();
        placeOfOtherNodesIsAWrongMeeting();
        nodesLieWronglyOnLines();
        nodesLieWronglyOnNodes();
        nodesNotThereDoNotLieWrongly();
        Check.finish("TermsTest");
    }

    /** K5 after 511 calls: fifteen that made it, and sixty-two rounds of eight. */
    private static PlanarSketch afterCalls() {
        PlanarSketch desk = Desks.with(5, Desks.FIVE);
        for (int round = 0; round < 62; round++) {
            Check.same("cut", 9, desk.cut(round % 10));
            Check.same("drawable", true, desk.drawable());
            Check.same("line", round % 10, desk.line(Desks.FIVE.charAt(round % 10 * 3) - '0',
                Desks.FIVE.charAt(round % 10 * 3 + 1) - '0'));
            Check.same("spare", 1, desk.spare());
            Check.same("node", 6, desk.node(5 + round % 5));
            Check.same("place", "throws.IllegalArgumentException", Check.outcome(() -> desk.place(0, 0, 31)));
            Check.same("drop", 0, desk.drop(5 + round % 5));
            Check.same("place", 15, desk.place(9, round % 31, 30));
        }
        return desk;
    }

    /** 'An object is used for at most 512 calls after it has been made': the 512th is answered as any other. */
    private static void usedFor512Calls() {
        Check.same("512th call, node", 6, afterCalls().node(9));
        Check.same("512th call, line", "throws.IllegalStateException", Check.outcome(() -> afterCalls().line(0, 1)));
        Check.same("512th call, cut", 9, afterCalls().cut(9));
        Check.same("512th call, drop", 4, afterCalls().drop(4));
        Check.same("512th call, nodes", 31, afterCalls().nodes());
        Check.same("512th call, lines", 1023, afterCalls().lines());
        Check.same("512th call, end", 4, afterCalls().end(9, 1));
        Check.same("512th call, drawable", false, afterCalls().drawable());
        Check.same("512th call, witness", 5, afterCalls().witness());
        Check.same("512th call, pattern", 1023, afterCalls().pattern());
        Check.same("512th call, corner", 4, afterCalls().corner(4));
        Check.same("512th call, faces", "throws.IllegalStateException", Check.outcome(() -> afterCalls().faces()));
        Check.same("512th call, could", "throws.NoSuchElementException", Check.outcome(() -> afterCalls().could(0, 5)));
        Check.same("512th call, room", 0, afterCalls().room());
        Check.same("512th call, around", false, afterCalls().around(31));
        Check.same("512th call, spare", 1, afterCalls().spare());
        Check.same("512th call, pieces", 1, afterCalls().pieces());
        Check.same("512th call, bridge", false, afterCalls().bridge(9));
        Check.same("512th call, hinge", false, afterCalls().hinge(4));
        Check.same("512th call, colours", 5, afterCalls().colours());
        Check.same("512th call, colour", 4, afterCalls().colour(4));
        Check.same("512th call, place", 21, afterCalls().place(4, 1, 0));
        Check.same("512th call, at", 30, afterCalls().at(9, 1));
        Check.same("512th call, meets", true, afterCalls().meets(0, 9));
        Check.same("512th call, wrong", 5, afterCalls().wrong());
        Check.same("512th call, flat", false, afterCalls().flat());
        Check.same("512th call, box", 1, afterCalls().box());
    }

    /** The same, when most of the calls are refused: they use nothing up. */
    private static void refusedCallsCountToo() {
        PlanarSketch desk = Desks.with(10, Desks.FULL_DRAWABLE);
        for (int k = 34; k < 511; k++) {
            Check.same("a 25th line", "throws.IllegalStateException", Check.outcome(() -> desk.line(8, 9)));
        }
        Check.same("512th call, lines", (1 << 24) - 1, desk.lines());
    }

    /** 'NODES are some of 0 .. 9': none, each of them alone, and all. */
    private static void nodesAreSomeOf0To9() {
        Check.same("no nodes", 0, new PlanarSketch().nodes());
        for (int i = 0; i < 10; i++) {
            PlanarSketch desk = new PlanarSketch();
            Check.same("node " + i + " alone", 1, desk.node(i));
            Check.same("its bit", 1 << i, desk.nodes());
        }
        Check.same("all nodes", 1023, Desks.with(10, "").nodes());
    }

    /** 'LINES have numbers 0 .. 23'. */
    private static void linesHaveNumbers0To23() {
        PlanarSketch desk = Desks.with(10, "");
        int number = 0;
        for (String ends : Desks.FULL_DRAWABLE.split(" ")) {
            Check.same("line " + ends, number, desk.line(ends.charAt(0) - '0', ends.charAt(1) - '0'));
            number++;
            Check.same("lines", (1 << number) - 1, desk.lines());
        }
        Check.same("how many", 24, number);
    }

    /** 'Each is between two different nodes that are there': a node that comes back has no lines. */
    private static void linesAreBetweenNodesThatAreThere() {
        for (int i = 0; i < 10; i++) {
            PlanarSketch desk = Desks.with(10, Desks.FULL_DRAWABLE);
            desk.drop(i);
            for (int l = 0; l < 24; l++) {
                if ((desk.lines() >> l & 1) != 0) {
                    Check.same("less end there", 1, desk.nodes() >> desk.end(l, 0) & 1);
                    Check.same("other end there", 1, desk.nodes() >> desk.end(l, 1) & 1);
                }
            }
            int left = desk.lines();
            desk.node(i);
            Check.same("lines when " + i + " is back", left, desk.lines());
            Check.same("lines of " + i + " when it is back", 0, desk.drop(i));
        }
    }

    /** 'No two between the same ones': but where one was cut, one may come. */
    private static void noTwoLinesBetweenTheSame() {
        PlanarSketch desk = Desks.with(3, "01 12");
        Check.same("twice", "throws.IllegalStateException", Check.outcome(() -> desk.line(1, 0)));
        desk.cut(0);
        Check.same("again", 0, desk.line(1, 0));
        desk.drop(2);
        desk.node(2);
        Check.same("again where one went with its node", 1, desk.line(1, 2));
    }

    /** 'A new line gets the least number that is free', wherever it is. */
    private static void leastFreeNumber() {
        for (int l = 0; l < 24; l++) {
            PlanarSketch desk = Desks.with(10, Desks.FULL_DRAWABLE);
            desk.cut(l);
            Check.same("free number " + l, l, desk.line(8, 9));
            Check.same("the ends of " + l, "8 9", desk.end(l, 0) + " " + desk.end(l, 1));
        }
    }

    /** The same, of several that are free. */
    private static void leastFreeNumberOfSeveral() {
        PlanarSketch desk = Desks.with(10, Desks.FULL_DRAWABLE);
        desk.cut(23);
        desk.cut(0);
        desk.cut(11);
        Check.same("the first", 0, desk.line(9, 8));
        Check.same("the next", 11, desk.line(0, 2));
        Check.same("the last", 23, desk.line(1, 3));
        desk.drop(9);
        Check.same("the first that went with a node", 0, desk.line(2, 4));
        Check.same("the next that went with a node", 16, desk.line(3, 5));
    }

    /** 'Lines curves that meet at nodes alone which are ends of both': K5 with a node at its crossing can be drawn. */
    private static void linesMeetAtNodesAlone() {
        Check.same("K5", false, Desks.with(6, Desks.FIVE).drawable());
        Check.same("K5, two lines through a node", true,
            Desks.with(6, "01 03 04 12 14 23 24 34 05 52 15 53").drawable());
    }

    /** 'FACES [...] (the outside is one)'. */
    private static void outsideIsAFace() {
        Check.same("nothing", 1, new PlanarSketch().faces());
        Check.same("a node", 1, Desks.with(1, "").faces());
        Check.same("a line", 1, Desks.with(2, "01").faces());
        Check.same("a ring", 2, Desks.with(3, "01 12 20").faces());
        Check.same("a node beside a ring", 2, Desks.with(4, "01 12 20").faces());
    }

    /** 'For each line by number': of K5 and K3,3 that one is left of which the least number is greater. */
    private static void witnessLeavesOutByNumber() {
        String six = "47 48 49 57 58 59 67 68 69";
        PlanarSketch fiveFirst = Desks.with(10, Desks.FIVE + " " + six);
        Check.same("K3,3 is left", 33, fiveFirst.witness());
        Check.same("its lines", 511 << 10, fiveFirst.pattern());
        PlanarSketch sixFirst = Desks.with(10, six + " " + Desks.FIVE);
        Check.same("K5 is left", 5, sixFirst.witness());
        Check.same("its lines", 1023 << 9, sixFirst.pattern());
        PlanarSketch between = Desks.with(10, "01 " + six + Desks.FIVE.substring(2));
        Check.same("K3,3 is left", 33, between.witness());
        Check.same("its lines", 511 << 1, between.pattern());
        // a line that comes later with a less number is looked at first
        sixFirst.cut(0);
        sixFirst.cut(9);
        sixFirst.line(0, 1);
        sixFirst.line(4, 7);
        Check.same("K3,3 is left", 33, sixFirst.witness());
        Check.same("its lines", 511 << 1, sixFirst.pattern());
    }

    /** 'It is left out for good when the others that are still there [...] are not drawable'. */
    private static void witnessLeavesOutForGood() {
        PlanarSketch desk = Desks.with(6, Desks.complete(0, 6));
        Check.same("K5 is left of K6", (1 << 15) - 32, desk.pattern());
        Check.same("the desk keeps all", (1 << 15) - 1, desk.lines());
        PlanarSketch two = Desks.with(10, Desks.FIVE + " " + Desks.complete(5, 5));
        Check.same("one K5 of two is left", 1023 << 10, two.pattern());
        two.cut(19);
        Check.same("the other when that is none", 1023, two.pattern());
    }

    /** 'By ways that have nothing in common but their ends': K5 and K3,3 with nodes on their lines. */
    private static void waysHaveNothingInCommon() {
        PlanarSketch five = Desks.with(10, "05 51 06 62 07 73 08 84 19 92 13 14 23 24 34");
        Check.same("K5 with ways", 5, five.witness());
        Check.same("all lines of it", (1 << 15) - 1, five.pattern());
        PlanarSketch six = Desks.with(10, "06 67 78 89 93 04 05 13 14 15 23 24 25");
        Check.same("K3,3 with a way", 33, six.witness());
        Check.same("all lines of it", (1 << 13) - 1, six.pattern());
    }

    /** 'The nodes at which three lines of the pattern or more end': not those with two, or with other lines. */
    private static void cornersHaveThreeLinesOfThePattern() {
        PlanarSketch desk = Desks.with(10, "08 78 10 04 15 16 24 25 26 37 79 94 35 36");
        Check.same("lines at 0 and at 7", "3 3", lineCount(desk, 0) + " " + lineCount(desk, 7));
        Check.same("pattern", (1 << 14) - 4, desk.pattern());
        int[] due = {1, 2, 3, 4, 5, 6};
        for (int k = 0; k < due.length; k++) {
            Check.same("corner " + k, due[k], desk.corner(k));
        }
    }

    private static int lineCount(PlanarSketch desk, int i) {
        int count = 0;
        for (int l = 0; l < 24; l++) {
            if ((desk.lines() >> l & 1) != 0 && (desk.end(l, 0) == i || desk.end(l, 1) == i)) {
                count++;
            }
        }
        return count;
    }

    /** 'PIECES: [...] (or they are one)'. */
    private static void aNodeIsInAPieceWithItself() {
        for (int count = 0; count <= 10; count++) {
            Check.same("lonely nodes", count, Desks.with(count, "").pieces());
        }
        Check.same("a way over all nodes", 1, Desks.with(10, "90 08 81 17 72 26 63 35 54").pieces());
    }

    /** 'A BRIDGE is a line without which there are more pieces'. */
    private static void bridgeMakesMorePieces() {
        Check.same("the only line", true, Desks.with(2, "01").bridge(0));
        Check.same("a line of the shortest ring", false, Desks.with(3, "01 12 20").bridge(0));
        PlanarSketch longest = Desks.with(10, "01 12 23 34 45 56 67 78 89 90");
        for (int l = 0; l < 10; l++) {
            Check.same("a line of the longest ring", false, longest.bridge(l));
        }
        longest.cut(9);
        for (int l = 0; l < 9; l++) {
            Check.same("a line of the longest way", true, longest.bridge(l));
        }
    }

    /** 'A HINGE a node without which, and its lines, the others are in more pieces than there are'. */
    private static void hingeIsAboutTheOthers() {
        Check.same("the only node", false, Desks.with(1, "").hinge(0));
        Check.same("a lonely node: one piece less", false, Desks.with(3, "01").hinge(2));
        Check.same("the end of a way: as many", false, Desks.with(3, "01 12").hinge(0));
        Check.same("the middle of a way: one more", true, Desks.with(3, "01 12").hinge(1));
        Check.same("a node of a ring", false, Desks.with(3, "01 12 20").hinge(1));
        Check.same("the middle of the greatest star", true, Desks.with(10, "90 91 92 93 94 95 96 97 98").hinge(9));
    }

    /** 'A number from 0 on'. */
    private static void colouringHasNumbersFrom0On() {
        PlanarSketch desk = Desks.with(10, Desks.FULL_TANGLED);
        int seen = 0;
        for (int i = 0; i < 10; i++) {
            seen |= 1 << desk.colour(i);
        }
        Check.same("all numbers from 0 on", (1 << desk.colours()) - 1, seen);
        Check.same("a lonely node has 0", 0, Desks.with(10, "").colour(9));
    }

    /** 'THE LEAST COLOURING has the fewest numbers', also where the least for one node alone would need more. */
    private static void leastColouringHasTheFewest() {
        // a way 0-2-3-1: with the least number for node 1 too it would need three
        PlanarSketch desk = Desks.with(4, "02 23 31");
        Check.same("numbers", 2, desk.colours());
        Check.same("node 1 has not the least", 1, desk.colour(1));
        Check.same("node 0 has the least", 0, desk.colour(0));
    }

    /** 'Of several it is that in which node 0 has the least, of several of these node 1, and so on'. */
    private static void leastColouringIsLeastByNode() {
        PlanarSketch ring = Desks.with(5, "01 12 23 34 40");
        int[] due = {0, 1, 0, 1, 2};
        for (int i = 0; i < due.length; i++) {
            Check.same("colour of " + i + " in a ring of five", due[i], ring.colour(i));
        }
        PlanarSketch lonely = Desks.with(10, "89");
        for (int i = 0; i < 9; i++) {
            Check.same("colour of " + i + " beside a line", 0, lonely.colour(i));
        }
        Check.same("colour of 9 at a line", 1, lonely.colour(9));
    }

    /** '(Nodes that are not there left out)'. */
    private static void leastColouringLeavesOutNodesNotThere() {
        PlanarSketch desk = Desks.with(10, Desks.FULL_DRAWABLE);
        desk.drop(0);
        desk.drop(8);
        Check.same("the first that is there has 0", 0, desk.colour(1));
        Check.same("numbers", 3, desk.colours());
        int[] due = {0, 1, 0, 1, 0, 1, 0};
        for (int i = 1; i <= 7; i++) {
            Check.same("colour of " + i, due[i - 1], desk.colour(i));
        }
        Check.same("colour of 9", 2, desk.colour(9));
    }

    /** 'Each of the ten nodes, whether it is there or not, has two whole numbers [...], at first (0, 0)'. */
    private static void allTenNodesHavePlaces() {
        PlanarSketch desk = Desks.with(5, "");
        for (int i = 0; i < 10; i++) {
            Check.same("first x of " + i, 0, desk.at(i, 0));
            Check.same("first y of " + i, 0, desk.at(i, 1));
        }
        for (int i = 0; i < 10; i++) {
            Check.same("place " + i, 0, desk.place(i, 3 * i + 3, 30 - 3 * i));
        }
        for (int i = 0; i < 10; i++) {
            Check.same("x of " + i, 3 * i + 3, desk.at(i, 0));
            Check.same("y of " + i, 30 - 3 * i, desk.at(i, 1));
        }
    }

    /** 'Whether it is there or not': a place outlasts its node's going and coming. */
    private static void placesAreKept() {
        PlanarSketch desk = new PlanarSketch();
        desk.place(4, 30, 7);
        desk.node(4);
        Check.same("x when it comes", 30, desk.at(4, 0));
        Check.same("y when it comes", 7, desk.at(4, 1));
        desk.drop(4);
        Check.same("x when it is gone", 30, desk.at(4, 0));
        Check.same("y when it is gone", 7, desk.at(4, 1));
        desk.node(4);
        Check.same("x when it is back", 30, desk.at(4, 0));
        Check.same("y when it is back", 7, desk.at(4, 1));
    }

    /** 'All points between the places of its ends, and these', asked with the line 0-1 and the lonely node 2. */
    private static void straightLinesHaveTheirEnds() {
        checkOnLine("at the one end", true, 0, 0);
        checkOnLine("at the other end", true, 30, 20);
        checkOnLine("one step from the one end", true, 3, 2);
        checkOnLine("one step from the other end", true, 27, 18);
        checkOnLine("just beside the one end", false, 1, 0);
        checkOnLine("just beside the other end", false, 30, 19);
        checkOnLine("just beside the middle", false, 15, 11);
        PlanarSketch beyond = Desks.with(3, "01");
        Desks.place(beyond, 3, 2, 27, 18, 30, 20);
        Check.same("one step beyond the end", 0, beyond.wrong());
        beyond.place(2, 0, 0);
        Check.same("one step before the start", 0, beyond.wrong());
    }

    private static void checkOnLine(String what, boolean due, int x, int y) {
        PlanarSketch desk = Desks.with(4, "01 23");
        Desks.place(desk, 0, 0, 30, 20, x, y, x, y);
        Check.same(what, due, desk.meets(0, 1));
    }

    /** 'A point in common that is not the place of a node which is an end of both'. */
    private static void sharedEndIsNoWrongMeeting() {
        PlanarSketch star = Desks.with(10, "01 02 03 04 05 06 07 08 09");
        Desks.place(star, 15, 15, 0, 0, 15, 0, 30, 0, 30, 15, 30, 30, 15, 30, 0, 30);
        star.place(8, 0, 15);
        Check.same("nine lines from one node, two of them over one another", 1, star.place(9, 7, 15));
        Check.same("nine lines from one node, one of them a point there", 0, star.place(9, 15, 15));
        Check.same("nine lines from one node", 0, star.place(9, 0, 16));
        Check.same("all of it on one spot", 0, allOnOneSpot(Desks.with(10, "01 02 03 04 05 06 07 08 09")));
        Check.same("all of a triangle on one spot", 0, allOnOneSpot(Desks.with(3, "01 12 20")));
    }

    private static int allOnOneSpot(PlanarSketch desk) {
        int meetings = 0;
        for (int i = 0; i < 10; i++) {
            meetings = desk.place(i, 17, 4);
        }
        return meetings;
    }

    /** The same: the place of a node that is an end of one of them, or of none, is no excuse. */
    private static void placeOfOtherNodesIsAWrongMeeting() {
        PlanarSketch desk = Desks.with(5, "01 23");
        Desks.place(desk, 0, 0, 10, 10, 10, 10, 20, 0);
        Check.same("end on end of another node", true, desk.meets(0, 1));
        Desks.place(desk, 0, 0, 10, 10, 5, 5, 20, 0);
        Check.same("end of one within the other", true, desk.meets(0, 1));
        Desks.place(desk, 0, 0, 10, 10, 0, 10, 10, 0, 5, 5);
        Check.same("a third node at the crossing", true, desk.meets(0, 1));
        PlanarSketch shared = Desks.with(3, "01 02");
        Desks.place(shared, 0, 0, 10, 10, 5, 5);
        Check.same("the other end within the other line", true, shared.meets(0, 1));
    }

    /** 'A point of the straight line of a line of which it is no end'. */
    private static void nodesLieWronglyOnLines() {
        PlanarSketch desk = Desks.with(3, "01");
        Desks.place(desk, 0, 10, 20, 10, 10, 10);
        Check.same("a node within a line", 1, desk.wrong());
        desk.line(1, 2);
        Check.same("also when it is an end of another one", 1, desk.wrong());
        desk.cut(0);
        Check.same("an end of the only line", 0, desk.wrong());
    }

    /** 'Or that of another node that is there'. */
    private static void nodesLieWronglyOnNodes() {
        PlanarSketch desk = Desks.with(2, "01");
        Check.same("two joined nodes on one spot", 2, desk.wrong());
        desk.place(1, 0, 1);
        Check.same("one beside the other", 0, desk.wrong());
        desk.cut(0);
        desk.place(1, 0, 0);
        Check.same("two lonely nodes on one spot", 2, desk.wrong());
    }

    /** The same: a node that is not there disturbs no other, and is not counted itself. */
    private static void nodesNotThereDoNotLieWrongly() {
        PlanarSketch desk = Desks.with(3, "01");
        Desks.place(desk, 0, 0, 4, 4, 9, 0);
        Check.same("seven not there on the first place", 0, desk.wrong());
        desk.place(7, 2, 2);
        Check.same("one not there on a line", 0, desk.wrong());
        desk.place(7, 9, 0);
        Check.same("one not there on a node", 0, desk.wrong());
        desk.node(7);
        Check.same("when it comes", 2, desk.wrong());
        desk.drop(2);
        Check.same("when the other goes", 0, desk.wrong());
    }
}
