import java.io.IOException;
import java.lang.reflect.Method;
import java.nio.file.Files;
import java.nio.file.Path;
import java.util.regex.Matcher;
import java.util.regex.Pattern;

/** The examples of README.md answer what it tells. */
public final class ReadmeTest {
    private static final Pattern CALL = Pattern.compile("planner\\.(\\w+)\\(([^/]*)\\);\\s*// (-?\\d+)(:.*)?");
    private static final Checks checks = new Checks();

    public static void main(String[] args) throws IOException, ReflectiveOperationException {
        checks.part("README.md");
        FormationPlanner planner = new FormationPlanner();
        int calls = 0;
        boolean inExample = false;
        for (String line : Files.readAllLines(Path.of("README.md"))) {
            if (line.startsWith("```")) {
                inExample = line.equals("```java");
            } else if (inExample && line.equals("FormationPlanner planner = new FormationPlanner();")) {
                planner = new FormationPlanner();
            } else if (inExample) {
                calls += call(planner, line);
            }
        }
        checks.due("the examples have calls", calls > 40 ? 1 : 0, 1);
        checks.end();
    }

    private static int call(FormationPlanner planner, String line) throws ReflectiveOperationException {
        Matcher call = CALL.matcher(line);
        boolean read = call.matches();
        checks.due("'" + line + "' can be read", read ? 1 : 0, 1);
        if (!read) return 0;
        String[] given = call.group(2).isEmpty() ? new String[0] : call.group(2).split(", ");
        Object[] arguments = new Object[given.length];
        Class<?>[] types = new Class<?>[given.length];
        for (int i = 0; i < given.length; i++) {
            types[i] = int.class;
            arguments[i] = given[i].startsWith("'") ? (int) given[i].charAt(1) : Integer.parseInt(given[i]);
        }
        Method method = FormationPlanner.class.getMethod(call.group(1), types);
        checks.due(line, (Integer) method.invoke(planner, arguments), Integer.parseInt(call.group(3)));
        return 1;
    }
}
