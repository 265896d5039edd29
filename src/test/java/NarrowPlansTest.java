import java.util.ArrayList;
import java.util.Arrays;
import java.util.Collections;
import java.util.List;
import java.util.Random;

/** Plans of drones that have few cells for all of them, compared with the oracle while they are flown. */
public final class NarrowPlansTest {
    private static final int[] STEPS = {0, 1, -1, 6, -6, 36, -36};
    private static int plans, stuck, explained, conflicts;

    public static void main(String[] args) {
        int runs = args.length > 0 ? Integer.parseInt(args[0]) : 4000;
        for (int seed = 0; seed < runs; seed++) {
            Random random = new Random(seed);
            List<Integer> free = freeCells(random, 5 + random.nextInt(8));
            if (!compare(random, free)) {
                System.out.println("seed " + seed + ", free cells " + free);
                System.exit(1);
            }
        }
        System.out.println(runs + " runs; plans " + plans + ", stuck " + stuck + ", explained " + explained + ", conflicts " + conflicts);
        if (Math.min(Math.min(plans, stuck), Math.min(explained, conflicts)) == 0) System.exit(1);
    }

    /** Cells that hang together, mostly in layer 0. */
    private static List<Integer> freeCells(Random random, int size) {
        List<Integer> cells = new ArrayList<>(List.of(8));
        while (cells.size() < size) {
            int cell = cells.get(random.nextInt(cells.size()));
            int action = 1 + random.nextInt(random.nextInt(5) == 0 ? 6 : 4);
            int x = cell % 6, y = cell / 6 % 6, z = cell / 36;
            boolean[] ends = {false, x == 5, x == 0, y == 5, y == 0, z == 2, z == 0};
            int to = cell + STEPS[action];
            if (!ends[action] && !cells.contains(to)) cells.add(to);
        }
        return cells;
    }

    private static boolean compare(Random random, List<Integer> free) {
        FormationPlanner program = new FormationPlanner();
        Oracle oracle = new Oracle();
        for (int cell = 0; cell < 108; cell++) {
            if (!free.contains(cell)) {
                program.setObstacle(cell, 1);
                oracle.setObstacle(cell, 1);
            }
        }
        for (int layer = 0; layer < 3; layer++) {
            int wind = random.nextInt(5);
            program.setWind(layer, wind);
            oracle.setWind(layer, wind);
        }
        int size = 2 + random.nextInt(Math.min(5, free.size() - 3));
        List<Integer> drones = new ArrayList<>(free), slots = new ArrayList<>(free);
        Collections.shuffle(drones, random);
        Collections.shuffle(slots, random);
        for (int i = 0; i < size; i++) {
            program.addDrone(drones.get(i));
            oracle.addDrone(drones.get(i));
            program.addSlot(slots.get(i));
            oracle.addSlot(slots.get(i));
        }
        int end = oracle.plan();
        if (!same("plan()", program.plan(), end)) return false;
        if (end < 0) stuck++;
        else plans++;
        if (!same("stuck()", program.stuck(), oracle.stuck())) return false;
        for (int time = 0; time <= end; time++) {
            if (!sameNow(program, oracle, size)) return false;
            if (!same("fly(1)", program.fly(1), oracle.fly(1))) return false;
        }
        return true;
    }

    private static boolean sameNow(FormationPlanner program, Oracle oracle, int size) {
        int pairs = oracle.conflictsWithout();
        if (pairs > 0) conflicts++;
        boolean same = same("conflictsWithout()", program.conflictsWithout(), pairs);
        for (int drone = 0; drone < size; drone++) {
            for (int what = 0; what < 5; what++) same &= same("flight", program.flight(drone, what), oracle.flight(drone, what));
            for (int time = 0; time < 60; time++) {
                int other = oracle.explain(drone, time);
                if (other >= 0) explained++;
                same &= same("explain(" + drone + ", " + time + ")", program.explain(drone, time), other);
                same &= same("at(" + drone + ", " + time + ")", program.at(drone, time), oracle.at(drone, time));
                same &= same("action(" + drone + ", " + time + ")", program.action(drone, time), oracle.action(drone, time));
            }
            same &= same("assigned(" + drone + ")", program.assigned(drone), oracle.assigned(drone));
        }
        int[] got = new int[4], want = new int[4];
        for (int what = 0; what < 4; what++) {
            got[what] = program.assignment(what);
            want[what] = oracle.assignment(what);
        }
        return same & same("assignment", Arrays.hashCode(got), Arrays.hashCode(want));
    }

    private static boolean same(String call, int got, int want) {
        if (got != want) System.out.println(call + " answered " + got + ", due is " + want);
        return got == want;
    }
}
