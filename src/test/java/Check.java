import java.util.Objects;

/** Counts the answers that are not as due, and ends a test. */
final class Check {
    /** A call of the desk whose answer, or exception, is looked at. */
    interface Call {
        Object answer();
    }

    private static int asked = 0;
    private static int wrong = 0;

    private Check() {
    }

    static void same(String what, Object want, Object got) {
        asked++;
        if (!Objects.equals(want, got)) {
            wrong++;
            System.out.println(what + ": answered " + got + ", due is " + want);
        }
    }

    /** The call must throw just this exception and leave the desk as it was. */
    static void refuses(String what, Class<? extends Exception> want, PlanarSketch desk, Call call) {
        String before = stateOf(desk);
        same(what, "throws." + want.getSimpleName(), outcome(call));
        same(what + " changes nothing", before, stateOf(desk));
    }

    /** The answer as a text, or "throws." and the exception's name. */
    static String outcome(Call call) {
        try {
            return String.valueOf(call.answer());
        } catch (RuntimeException e) {
            return "throws." + e.getClass().getSimpleName();
        }
    }

    static String stateOf(PlanarSketch desk) {
        StringBuilder state = new StringBuilder();
        state.append(desk.nodes()).append('/').append(desk.lines());
        for (int l = 0; l < 24; l++) {
            if ((desk.lines() >> l & 1) != 0) {
                state.append(' ').append(desk.end(l, 0)).append('-').append(desk.end(l, 1));
            }
        }
        for (int i = 0; i < 10; i++) {
            state.append(" (").append(desk.at(i, 0)).append(',').append(desk.at(i, 1)).append(')');
        }
        return state.toString();
    }

    static void finish(String name) {
        System.out.println(name + ": " + asked + " answers, " + wrong + " not as due");
        if (wrong != 0 || asked == 0) {
            System.exit(1);
        }
    }
}
