import java.lang.reflect.Method;
import java.lang.reflect.Modifier;
import java.nio.file.Files;
import java.nio.file.Path;
import java.util.Set;
import java.util.TreeSet;
import java.util.regex.Matcher;
import java.util.regex.Pattern;

/** That the README's calls answer what stands behind them, and that it names every call. */
public final class ReadmeTest {
    private static final Pattern CALL =
            Pattern.compile("desk\\.(\\w+)\\(([^)]*)\\); +// (-?\\w+)(:.*)?");
    private static final Pattern ROW = Pattern.compile("\\| `(\\w+)\\(.*");

    public static void main(String[] args) throws Exception {
        Set<String> run = new TreeSet<>();
        Set<String> listed = new TreeSet<>();
        FactorDesk desk = new FactorDesk();
        for (String line : Files.readAllLines(Path.of("README.md"))) {
            Matcher row = ROW.matcher(line);
            if (row.matches()) {
                listed.add(row.group(1));
            }
            if (line.startsWith("desk.")) {
                run.add(compare(desk, line));
            }
        }
        Set<String> face = faceNames();
        Check.due("calls of the example", run, face);
        Check.due("calls of the table", listed, face);
        Check.finish("ReadmeTest");
    }

    private static Set<String> faceNames() {
        Set<String> names = new TreeSet<>();
        for (Method method : FactorDesk.class.getDeclaredMethods()) {
            if (Modifier.isPublic(method.getModifiers())) {
                names.add(method.getName());
            }
        }
        return names;
    }

    /** Makes the call of a line, and answers its name. */
    private static String compare(FactorDesk desk, String line) throws Exception {
        Matcher call = CALL.matcher(line);
        Check.due("form of " + line, call.matches(), true);
        String[] given = call.group(2).isEmpty() ? new String[0] : call.group(2).split(", ");
        for (Method method : FactorDesk.class.getDeclaredMethods()) {
            if (Modifier.isPublic(method.getModifiers()) && method.getName().equals(call.group(1))) {
                Check.due(line, method.invoke(desk, numbers(method.getParameterTypes(), given)),
                        call.group(3));
            }
        }
        return call.group(1);
    }

    private static Object[] numbers(Class<?>[] types, String[] given) {
        Object[] row = new Object[given.length];
        for (int i = 0; i < row.length; i++) {
            row[i] = types[i] == int.class ? (Object) Integer.valueOf(given[i]) : Long.valueOf(given[i]);
        }
        return row;
    }
}
