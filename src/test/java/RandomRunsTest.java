import java.util.ArrayList;
import java.util.List;
import java.util.Random;

/** Long runs of calls on a program and on the oracle; every answer must be the same. */
public final class RandomRunsTest {
    private static final String[] NAMES = {"setWind", "setObstacle", "addDrone", "removeDrone", "addSlot", "clearSlots",
        "append", "readSlots", "flightTime", "assigned", "assignment", "plan", "stuck", "at", "action", "flight",
        "explain", "conflictsWithout", "fly", "greatestWith", "cellOf", "look", "count", "undo"};
    private static final int CALLS = 512;

    private final Random random;
    private final int style;
    private final FormationPlanner program = new FormationPlanner();
    private final Oracle oracle = new Oracle();
    private final List<String> calls = new ArrayList<>();
    private String waiting = "";
    private boolean differs;
    private static final int[] seen = new int[8];

    private RandomRunsTest(long seed) {
        random = new Random(seed);
        style = (int) (seed % 4);
    }

    public static void main(String[] args) {
        int runs = args.length > 0 ? Integer.parseInt(args[0]) : 240;
        for (int seed = 0; seed < runs; seed++) {
            RandomRunsTest run = new RandomRunsTest(seed);
            run.run();
            if (run.differs) {
                System.out.println("seed " + seed + ":");
                run.calls.forEach(System.out::println);
                System.exit(1);
            }
        }
        System.out.println(runs + " runs; plans " + seen[0] + ", stuck " + seen[1] + ", explained " + seen[2]
            + ", with conflicts " + seen[3] + ", no assignment " + seen[4] + ", slots read " + seen[5]);
        // A run that never meets these would show nothing.
        for (int i = 0; i < 6; i++) {
            if (seen[i] == 0) {
                System.out.println("never seen: " + i);
                System.exit(1);
            }
        }
    }

    private void run() {
        if (style > 0) wallIn();
        while (calls.size() < CALLS && !differs) {
            if (random.nextInt(4) == 0) any(random.nextInt(NAMES.length));
            else likely();
        }
    }

    /** Leaves few cells open, so that drones are in each other's way. */
    private void wallIn() {
        int rows = style == 1 ? 1 : 2;
        for (int cell = 0; cell < 108; cell++) {
            int x = cell % 6, y = cell / 6 % 6, z = cell / 36;
            boolean open = z == 0 && y < rows || style == 3 && z == 1 && x == y || z == 0 && random.nextInt(12) == 0;
            if (!open) call(1, cell, 1);
        }
        call(0, 0, random.nextInt(5));
    }

    private void likely() {
        switch (random.nextInt(9)) {
            case 0 -> call(0, random.nextInt(3), random.nextInt(5));
            case 1 -> call(1, random.nextInt(108), random.nextInt(2));
            case 2 -> formation();
            case 3 -> pairUp();
            case 4, 5, 6 -> {
                pairUp();
                planAndAsk();
            }
            case 7 -> call(3, random.nextInt(6), 0);
            default -> call(23, 0, 0);
        }
    }

    /** Adds drones or slots until there are as many of both. */
    private void pairUp() {
        int want = 1 + random.nextInt(6);
        for (int turn = 0; turn < 30 && oracle.count(0) < want; turn++) call(2, anOpenCell(), 0);
        if (oracle.count(1) > oracle.count(0) && random.nextInt(3) > 0) call(5, 0, 0);
        for (int turn = 0; turn < 30 && oracle.count(1) < oracle.count(0); turn++) call(4, anOpenCell(), 0);
    }

    private int anOpenCell() {
        for (int turn = 0; turn < 60; turn++) {
            int cell = random.nextInt(style == 0 ? 108 : 18);
            if (oracle.look(cell) != 1) return cell;
        }
        return random.nextInt(108);
    }

    private void planAndAsk() {
        for (int turn = 0; turn < 2; turn++) {
            int answer = call(11, 0, 0);
            if (answer >= 0) seen[0]++;
            if (answer == -7) seen[1]++;
            if (answer == -6) seen[4]++;
            call(12, 0, 0);
            for (int drone = 0; drone < oracle.count(0); drone++) {
                for (int what = 0; what < 5; what++) {
                    if (random.nextInt(3) == 0) call(15, drone, what);
                }
                if (call(16, drone, random.nextInt(8)) >= 0) seen[2]++;
                call(13, drone, random.nextInt(8));
                call(14, drone, random.nextInt(8));
            }
            // Waits are rare: all of them are asked about, though not all as calls of the run.
            for (int drone = 0; drone < 6; drone++) compareFlight(drone);
            if (call(17, 0, 0) > 0) seen[3]++;
            call(9, random.nextInt(6), 0);
            call(10, random.nextInt(4), 0);
            call(19, random.nextInt(3), random.nextInt(5));
            call(18, 1 + random.nextInt(4), 0);
        }
    }

    /** Questions change nothing, so that these need not be counted as calls. */
    private void compareFlight(int drone) {
        for (int time = 0; time <= 60; time++) {
            int[] got = {program.at(drone, time), program.action(drone, time), program.explain(drone, time)};
            int[] want = {oracle.at(drone, time), oracle.action(drone, time), oracle.explain(drone, time)};
            for (int i = 0; i < 3; i++) {
                if (got[i] != want[i]) {
                    calls.add(new String[] {"at", "action", "explain"}[i] + "(" + drone + ", " + time + ") answered " + got[i] + ", due is " + want[i]);
                    differs = true;
                }
            }
        }
    }

    private void formation() {
        StringBuilder text = new StringBuilder();
        int positions = 1 + random.nextInt(random.nextInt(5) == 0 ? 8 : 4);
        for (int i = 0; i < positions; i++) {
            int cell = anOpenCell();
            text.append(i == 0 ? "" : " ").append((char) ('a' + cell % 6)).append((char) ('1' + cell / 6 % 6)).append("+".repeat(cell / 36));
        }
        if (random.nextInt(4) == 0) text.setCharAt(random.nextInt(text.length()), "ag07+ b3"
            .charAt(random.nextInt(8)));
        if (random.nextInt(6) == 0) text.append("+ +a".charAt(random.nextInt(4)));
        for (char sign : text.toString().toCharArray()) call(6, sign, 1);
        if (call(7, 0, 0) > 0) seen[5]++;
    }

    private void any(int method) {
        int[] bounds = {3, 108, 108, 6, 108, 1, 128, 1, 108, 6, 4, 1, 1, 6, 6, 6, 6, 1, 61, 3, 2, 108, 8, 1};
        int[] seconds = {5, 2, 1, 1, 1, 1, 61, 1, 108, 1, 1, 1, 1, 61, 60, 5, 60, 1, 1, 5, 6, 1, 1, 1};
        call(method, around(bounds[method]), around(seconds[method]));
    }

    private int around(int bound) {
        int turn = random.nextInt(40);
        if (turn == 0) return -1;
        if (turn == 1) return bound;
        if (turn == 2) return Integer.MIN_VALUE;
        if (turn == 3) return Integer.MAX_VALUE;
        return random.nextInt(bound);
    }

    private int call(int method, int a, int b) {
        if (calls.size() >= CALLS || differs) return -99;
        int got = onProgram(method, a, b);
        int want = onOracle(method, a, b);
        calls.add(NAMES[method] + "(" + a + ", " + b + ") answered " + got + (got == want ? "" : ", due is " + want));
        differs = got != want;
        return got;
    }

    private int onProgram(int method, int a, int b) {
        return switch (method) {
            case 0 -> program.setWind(a, b);
            case 1 -> program.setObstacle(a, b);
            case 2 -> program.addDrone(a);
            case 3 -> program.removeDrone(a);
            case 4 -> program.addSlot(a);
            case 5 -> program.clearSlots();
            case 6 -> program.append(a, b);
            case 7 -> program.readSlots();
            case 8 -> program.flightTime(a, b);
            case 9 -> program.assigned(a);
            case 10 -> program.assignment(a);
            case 11 -> program.plan();
            case 12 -> program.stuck();
            case 13 -> program.at(a, b);
            case 14 -> program.action(a, b);
            case 15 -> program.flight(a, b);
            case 16 -> program.explain(a, b);
            case 17 -> program.conflictsWithout();
            case 18 -> program.fly(a);
            case 19 -> program.greatestWith(a, b);
            case 20 -> program.cellOf(a, b);
            case 21 -> program.look(a);
            case 22 -> program.count(a);
            default -> program.undo();
        };
    }

    private int onOracle(int method, int a, int b) {
        return switch (method) {
            case 0 -> oracle.setWind(a, b);
            case 1 -> oracle.setObstacle(a, b);
            case 2 -> oracle.addDrone(a);
            case 3 -> oracle.removeDrone(a);
            case 4 -> oracle.addSlot(a);
            case 5 -> oracle.clearSlots();
            case 6 -> oracle.append(a, b);
            case 7 -> oracle.readSlots();
            case 8 -> oracle.flightTime(a, b);
            case 9 -> oracle.assigned(a);
            case 10 -> oracle.assignment(a);
            case 11 -> oracle.plan();
            case 12 -> oracle.stuck();
            case 13 -> oracle.at(a, b);
            case 14 -> oracle.action(a, b);
            case 15 -> oracle.flight(a, b);
            case 16 -> oracle.explain(a, b);
            case 17 -> oracle.conflictsWithout();
            case 18 -> oracle.fly(a);
            case 19 -> oracle.greatestWith(a, b);
            case 20 -> oracle.cellOf(a, b);
            case 21 -> oracle.look(a);
            case 22 -> oracle.count(a);
            default -> oracle.undo();
        };
    }
}
