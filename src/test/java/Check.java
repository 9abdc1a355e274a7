import java.util.Objects;

/** Counts the answers that are not as due, and ends a test. */
final class Check {
    /** A call whose answer, or exception, is looked at. */
    interface Call {
        Object answer();
    }

    /** Makes the same desk each time it is asked, so that no desk is used for more than the document's 512 calls. */
    interface Maker {
        PlanarSketch make();
    }

    /** A call on a desk that is made for it. */
    interface Ask {
        Object on(PlanarSketch desk);
    }

    private static int asked = 0;
    private static int wrong = 0;

    private Check() {
    }

    static void same(String what, Object want, Object got) {
        asked++;
        if (!Objects.equals(want, got)) {
            wrong++;
            System.out.println(what + ": answered " + got + ", due is " + want);
        }
    }

    /** The call must throw just this exception and leave the desk as it was, in all that can be asked of it. */
    static void refuses(String what, Class<? extends Exception> want, Maker maker, Ask ask) {
        PlanarSketch desk = maker.make();
        String before = stateOf(desk);
        same(what, "throws." + want.getSimpleName(), outcome(() -> ask.on(desk)));
        same(what + " changes nothing", before, stateOf(desk));
    }

    /** The call must answer this and leave the desk as it was. */
    static void tells(String what, Object want, Maker maker, Ask ask) {
        PlanarSketch desk = maker.make();
        String before = stateOf(desk);
        same(what, String.valueOf(want), outcome(() -> ask.on(desk)));
        same(what + " changes nothing", before, stateOf(desk));
    }

    /** The answer as a text, or "throws." and the exception's name. */
    static String outcome(Call call) {
        try {
            return String.valueOf(call.answer());
        } catch (RuntimeException e) {
            return "throws." + e.getClass().getSimpleName();
        }
    }

    /** What is held at the desk, and what it answers to all calls without an argument; at most 100 calls. */
    static String stateOf(PlanarSketch desk) {
        StringBuilder state = new StringBuilder();
        int nodes = desk.nodes();
        int lines = desk.lines();
        state.append(nodes).append('/').append(lines);
        for (int l = 0; l < 24; l++) {
            if ((lines >> l & 1) != 0) {
                state.append(' ').append(desk.end(l, 0)).append('-').append(desk.end(l, 1));
            }
        }
        for (int i = 0; i < 10; i++) {
            state.append(" (").append(desk.at(i, 0)).append(',').append(desk.at(i, 1)).append(')');
            state.append((nodes >> i & 1) == 0 ? "" : " painted " + desk.colour(i));
        }
        state.append(" drawable ").append(desk.drawable()).append(" witness ").append(desk.witness());
        state.append(" pattern ").append(desk.pattern()).append(" faces ").append(outcome(desk::faces));
        state.append(" room ").append(desk.room()).append(" spare ").append(desk.spare());
        state.append(" pieces ").append(desk.pieces()).append(" colours ").append(desk.colours());
        state.append(" wrong ").append(desk.wrong()).append(" flat ").append(desk.flat());
        return state.append(" box ").append(desk.box()).toString();
    }

    static void finish(String name) {
        System.out.println(name + ": " + asked + " answers, " + wrong + " not as due");
        if (wrong != 0 || asked == 0) {
            System.exit(1);
        }
    }
}
