import java.io.IOException;
import java.lang.reflect.InvocationTargetException;
import java.lang.reflect.Method;
import java.nio.file.Files;
import java.nio.file.Path;
import java.util.ArrayList;
import java.util.List;
import java.util.Set;
import java.util.TreeSet;
import java.util.regex.Matcher;
import java.util.regex.Pattern;

/** What README.md says of the class: each answer of its example, and each call of its table with its exceptions. */
public final class ReadmeTest {
    private static final Pattern EXAMPLE = Pattern.compile("desk\\.(\\w+)\\(([^)]*)\\); +// (\\w+).*");
    private static final Pattern ROW = Pattern.compile("\\| `(\\w+)\\(([^)]*)\\)` \\|[^|]*\\|([^|]*)\\|");
    private static final Pattern EXCEPTION = Pattern.compile("`(\\w+Exception)`");

    public static void main(String[] args) throws IOException, ReflectiveOperationException {
        List<String> readme = Files.readAllLines(Path.of("README.md"));
        exampleAnswersAsTold(readme);
        tableHasEachCall(readme);
        Check.finish("ReadmeTest");
    }

    private static void exampleAnswersAsTold(List<String> readme) throws ReflectiveOperationException {
        // the loops at the head of the example make this desk
        PlanarSketch desk = Desks.with(5, Desks.FIVE);
        int found = 0;
        for (String text : readme) {
            Matcher told = EXAMPLE.matcher(text);
            if (told.matches()) {
                found++;
                Check.same(text, told.group(3), answer(desk, told.group(1), told.group(2)));
            }
        }
        Check.same("the example has answers", true, found > 0);
    }

    private static String answer(PlanarSketch desk, String name, String given) throws ReflectiveOperationException {
        String[] texts = given.isEmpty() ? new String[0] : given.split(", ");
        Class<?>[] types = new Class<?>[texts.length];
        Object[] numbers = new Object[texts.length];
        for (int k = 0; k < texts.length; k++) {
            types[k] = int.class;
            numbers[k] = Integer.valueOf(texts[k]);
        }
        try {
            return String.valueOf(PlanarSketch.class.getMethod(name, types).invoke(desk, numbers));
        } catch (InvocationTargetException e) {
            return "throws." + e.getCause().getClass().getSimpleName();
        }
    }

    private static void tableHasEachCall(List<String> readme) {
        Set<String> face = new TreeSet<>();
        for (Method method : PlanarSketch.class.getMethods()) {
            if (method.getDeclaringClass() == PlanarSketch.class) {
                List<String> thrown = new ArrayList<>();
                for (Class<?> exception : method.getExceptionTypes()) {
                    thrown.add(exception.getSimpleName());
                }
                face.add(method.getName() + "/" + method.getParameterCount() + thrown);
            }
        }
        Set<String> told = new TreeSet<>();
        for (String text : readme) {
            Matcher row = ROW.matcher(text);
            if (row.matches()) {
                int count = row.group(2).isEmpty() ? 0 : row.group(2).split(", ").length;
                told.add(row.group(1) + "/" + count + exceptionsIn(row.group(3)));
            }
        }
        Check.same("the table of calls", face, told);
    }

    private static List<String> exceptionsIn(String cell) {
        List<String> names = new ArrayList<>();
        Matcher name = EXCEPTION.matcher(cell);
        while (name.find()) {
            names.add(name.group(1));
        }
        return names;
    }
}
