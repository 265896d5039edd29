import java.io.IOException;
import java.lang.reflect.Constructor;
import java.lang.reflect.Field;
import java.lang.reflect.Method;
import java.lang.reflect.Modifier;
import java.nio.file.Files;
import java.nio.file.Path;
import java.util.Arrays;
import java.util.TreeSet;

/** The class has the document's face and no other, and its file keeps to the language. */
public final class FaceTest {
    private static final Checks checks = new Checks();
    private static final String[] METHODS = {"setWind/2", "setObstacle/2", "addDrone/1", "removeDrone/1", "addSlot/1",
        "clearSlots/0", "append/2", "readSlots/0", "flightTime/2", "assigned/1", "assignment/1", "plan/0", "stuck/0",
        "at/2", "action/2", "flight/2", "explain/2", "conflictsWithout/0", "fly/1", "greatestWith/2", "cellOf/2",
        "look/1", "count/1", "undo/0"};
    private static final String[] CONSTANTS = {"NONE", "BAD_ARGUMENT", "FULL", "TAKEN", "MISMATCH", "NO_ASSIGNMENT", "NO_PLAN"};

    public static void main(String[] args) throws IOException {
        checks.part("face");
        Class<FormationPlanner> face = FormationPlanner.class;
        checks.due("public final class", face.getModifiers() & (Modifier.PUBLIC | Modifier.FINAL), Modifier.PUBLIC | Modifier.FINAL);
        methods(face);
        constants();
        for (Constructor<?> made : face.getDeclaredConstructors()) {
            checks.due("constructor", Modifier.isPublic(made.getModifiers()) ? made.getParameterCount() : -1, 0);
        }
        language();
        checks.end();
    }

    private static void methods(Class<FormationPlanner> face) {
        TreeSet<String> open = new TreeSet<>();
        for (Method method : face.getDeclaredMethods()) {
            if (Modifier.isPrivate(method.getModifiers()) || method.isSynthetic()) continue;
            open.add(method.getName() + "/" + method.getParameterCount());
            checks.due(method.getName() + " is public and answers an int", method.getReturnType() == int.class
                && Modifier.isPublic(method.getModifiers()) && !Modifier.isStatic(method.getModifiers()) ? 1 : 0, 1);
        }
        TreeSet<String> want = new TreeSet<>(Arrays.asList(METHODS));
        checks.due("the methods " + open + " for " + want, open.equals(want) ? 1 : 0, 1);
    }

    private static void constants() {
        checks.due("NONE", FormationPlanner.NONE, -1);
        checks.due("BAD_ARGUMENT", FormationPlanner.BAD_ARGUMENT, -2);
        checks.due("FULL", FormationPlanner.FULL, -3);
        checks.due("TAKEN", FormationPlanner.TAKEN, -4);
        checks.due("MISMATCH", FormationPlanner.MISMATCH, -5);
        checks.due("NO_ASSIGNMENT", FormationPlanner.NO_ASSIGNMENT, -6);
        checks.due("NO_PLAN", FormationPlanner.NO_PLAN, -7);
        TreeSet<String> open = new TreeSet<>();
        for (Field field : FormationPlanner.class.getDeclaredFields()) {
            if (!Modifier.isPrivate(field.getModifiers())) open.add(field.getName());
        }
        checks.due("the constants " + open, open.equals(new TreeSet<>(Arrays.asList(CONSTANTS))) ? 1 : 0, 1);
    }

    /** Words that LANGUAGE.md rules out and that are easily written without a thought. */
    private static void language() throws IOException {
        String code = Files.readString(Path.of("src/main/java/FormationPlanner.java"))
            .replaceAll("(?s)/\\*.*?\\*/", "").replaceAll("//[^\n]*", "");
        for (String word : new String[] {"throw", "try", "catch", "synchronized", "assert", "package", "protected",
            "->", "::", "hashCode", "toString", "Exact", "HashMap", "Random", "System.out", "nanoTime", "@"}) {
            checks.due("the file holds '" + word + "'", code.contains(word) ? 1 : 0, 0);
        }
        for (String line : code.split("\n")) {
            if (line.startsWith("import ")) checks.due(line, line.matches("import java\\.util\\.(Arrays|ArrayList|List|Iterator);") ? 1 : 0, 1);
        }
    }
}
