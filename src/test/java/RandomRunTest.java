import java.util.Random;

/** All promises: the same runs of 512 calls, right and wrong ones, on the desk and on the slow model. */
public final class RandomRunTest {
    private static final int RUNS = 120;
    /** The document promises so many answers of one object. */
    private static final int CALLS = 512;

    private final Random random;
    private final int run;
    private final PlanarSketch desk = new PlanarSketch();
    private final SlowModel model = new SlowModel();
    private final int nodeCount;
    private final int span;
    private int made = 0;

    private RandomRunTest(int run) {
        this.run = run;
        random = new Random(run);
        nodeCount = 4 + random.nextInt(7);
        span = random.nextBoolean() ? 31 : 4;
    }

    public static void main(String[] args) {
        for (int run = 0; run < RUNS; run++) {
            new RandomRunTest(run).go();
        }
        Check.finish("RandomRunTest");
    }

    private void go() {
        for (int i = 0; i < nodeCount; i++) {
            ask(0, i, 0, 0);
        }
        int eager = random.nextInt(40);
        for (int k = 0; k < eager; k++) {
            ask(1, random.nextInt(nodeCount), random.nextInt(nodeCount), 0);
        }
        while (made < CALLS) {
            int call = random.nextInt(30);
            ask(call < 27 ? call : 1, number(), number(), number());
        }
    }

    /** Mostly what exists, now and then anything. */
    private int number() {
        switch (random.nextInt(12)) {
            case 0:
                return random.nextInt(34) - 2;
            case 1:
                return random.nextInt();
            case 2:
            case 3:
                return random.nextInt(24);
            default:
                return random.nextInt(nodeCount);
        }
    }

    private void ask(int call, int a, int b, int c) {
        String what = "run " + run + ", call " + call + " (" + a + ", " + b + ", " + c + ")";
        if (call < 9) {
            askNetwork(what, call, a, b);
        } else if (call < 17) {
            askDrawing(what, call, a, b);
        } else if (call < 22) {
            askParts(what, call, a);
        } else {
            askPlaces(what, call, a, b, c);
        }
    }

    private void both(String what, Check.Call ours, Check.Call due) {
        if (made == CALLS) {
            return;
        }
        made++;
        Check.same(what, Check.outcome(due), Check.outcome(ours));
    }

    private void askNetwork(String what, int call, int a, int b) {
        switch (call) {
            case 0 -> both(what, () -> desk.node(a), () -> model.node(a));
            case 1 -> both(what, () -> desk.line(a, b), () -> model.line(a, b));
            case 2 -> both(what, () -> desk.cut(a), () -> model.cut(a));
            case 3 -> {
                if (random.nextInt(3) == 0) {
                    both(what, () -> desk.drop(a), () -> model.drop(a));
                }
            }
            case 4 -> both(what, desk::nodes, model::nodes);
            case 5 -> both(what, desk::lines, model::lines);
            case 6 -> both(what, () -> desk.end(a, b), () -> model.end(a, b));
            case 7 -> both(what, () -> desk.end(a, 1), () -> model.end(a, 1));
            default -> both(what, () -> desk.line(b, a), () -> model.line(b, a));
        }
    }

    private void askDrawing(String what, int call, int a, int b) {
        int set = random.nextInt(4) == 0 ? a : random.nextInt(1 << nodeCount) & model.nodes();
        switch (call) {
            case 9 -> both(what, desk::drawable, model::drawable);
            case 10 -> both(what, desk::witness, model::witness);
            case 11 -> both(what, desk::pattern, model::pattern);
            case 12 -> both(what, () -> desk.corner(a), () -> model.corner(a));
            case 13 -> both(what, desk::faces, model::faces);
            case 14 -> both(what, () -> desk.could(a, b), () -> model.could(a, b));
            case 15 -> both(what, () -> desk.around(set), () -> model.around(set));
            default -> {
                // dear for the model
                if (random.nextInt(4) == 0) {
                    both(what, desk::room, model::room);
                    both(what, desk::spare, model::spare);
                }
            }
        }
    }

    private void askParts(String what, int call, int a) {
        switch (call) {
            case 17 -> both(what, desk::pieces, model::pieces);
            case 18 -> both(what, () -> desk.bridge(a), () -> model.bridge(a));
            case 19 -> both(what, () -> desk.hinge(a), () -> model.hinge(a));
            case 20 -> both(what, desk::colours, model::colours);
            default -> both(what, () -> desk.colour(a), () -> model.colour(a));
        }
    }

    private void askPlaces(String what, int call, int a, int b, int c) {
        int x = random.nextInt(10) == 0 ? b : random.nextInt(span);
        int y = random.nextInt(10) == 0 ? c : random.nextInt(span);
        switch (call) {
            case 22, 23 -> both(what, () -> desk.place(a, x, y), () -> model.place(a, x, y));
            case 24 -> {
                both(what, () -> desk.at(a, b & 3), () -> model.at(a, b & 3));
                both(what, () -> desk.at(a, b), () -> model.at(a, b));
            }
            case 25 -> both(what, () -> desk.meets(a, b), () -> model.meets(a, b));
            default -> {
                both(what, desk::wrong, model::wrong);
                both(what, desk::flat, model::flat);
                both(what, desk::box, model::box);
            }
        }
    }
}
