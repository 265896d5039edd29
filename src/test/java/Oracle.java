import java.util.ArrayDeque;
import java.util.ArrayList;
import java.util.Arrays;
import java.util.Collections;
import java.util.Comparator;
import java.util.Deque;
import java.util.HashMap;
import java.util.HashSet;
import java.util.List;
import java.util.Map;
import java.util.PriorityQueue;
import java.util.Set;
import java.util.regex.Pattern;

/**
 * The document once more, written as differently from the program as it goes: the order of the
 * best assignment by sorting all of them, flights by a search in depth for one arrival after the
 * other, conflicts by comparing whole flights, the error offset by trying continuations.
 */
final class Oracle {
    private static final int NONE = -1, BAD = -2, FULL = -3, TAKEN = -4, MISMATCH = -5, NO_ASSIGNMENT = -6, NO_PLAN = -7;
    private static final Pattern FORMATION = Pattern.compile("[a-f][1-6]\\+{0,2}( [a-f][1-6]\\+{0,2})*");
    private static final int[][] STEPS = {{0, 0, 0}, {1, 0, 0}, {-1, 0, 0}, {0, 1, 0}, {0, -1, 0}, {0, 0, 1}, {0, 0, -1}};

    /** An immutable copy of what can be undone. */
    private record Scene(List<Integer> winds, Set<Integer> walls, List<Integer> drones, List<Integer> slots, int flown) { }

    /** A flight with the cell at each time, the action of each tick, and the rest of what is asked about it. */
    private record Flown(int[] cells, int[] actions, int arrival, int slot, int place) {
        int cell(int time) { return cells[Math.min(time, 60)]; }
    }

    private record Choice(int greatest, int sum, List<Integer> slots) { }

    private List<Integer> winds = new ArrayList<>(List.of(0, 0, 0));
    private Set<Integer> walls = new HashSet<>();
    private List<Integer> drones = new ArrayList<>();
    private List<Integer> slots = new ArrayList<>();
    private int flown;
    private final Deque<Scene> past = new ArrayDeque<>();
    private String text = "";
    private Flown[] flights;
    private int passed;
    private int stuck = NONE;
    private final Map<Integer, int[]> timesFrom = new HashMap<>();

    // ---- the face

    int setWind(int layer, int wind) {
        if (layer < 0 || layer > 2 || wind < 0 || wind > 4) return BAD;
        change();
        return winds.set(layer, wind);
    }

    int setObstacle(int cell, int on) {
        if (outside(cell) || (on != 0 && on != 1)) return BAD;
        if (on == 1 && (drones.contains(cell) || slots.contains(cell))) return TAKEN;
        change();
        boolean was = on == 1 ? !walls.add(cell) : walls.remove(cell);
        return was ? 1 : 0;
    }

    int addDrone(int cell) { return add(drones, cell); }

    int addSlot(int cell) { return add(slots, cell); }

    private int add(List<Integer> places, int cell) {
        if (outside(cell)) return BAD;
        if (places.size() == 6) return FULL;
        if (walls.contains(cell) || places.contains(cell)) return TAKEN;
        change();
        places.add(cell);
        return places.size() - 1;
    }

    int removeDrone(int drone) {
        change();
        if (drone < 0 || drone >= drones.size()) return NONE;
        drones.remove(drone);
        return drones.size();
    }

    int clearSlots() {
        change();
        int n = slots.size();
        slots.clear();
        return n;
    }

    int append(int code, int count) {
        if (code < 0 || code > 127 || count < 1 || count > 60) return BAD;
        if (text.length() + count > 60) return FULL;
        text += String.valueOf((char) code).repeat(count);
        return text.length();
    }

    int readSlots() {
        String read = text;
        text = "";
        if (!FORMATION.matcher(read).matches()) return -100 - errorOffset(read);
        List<Integer> cells = new ArrayList<>();
        for (String part : read.split(" ")) {
            cells.add(part.charAt(0) - 'a' + 6 * (part.charAt(1) - '1') + 36 * (part.length() - 2));
        }
        if (cells.size() > 6) return FULL;
        if (new HashSet<>(cells).size() < cells.size() || !Collections.disjoint(cells, walls)) return TAKEN;
        change();
        slots = cells;
        return cells.size();
    }

    /** The length of the longest beginning that something can make a formation. */
    private static int errorOffset(String read) {
        int offset = 0;
        while (offset < read.length() && canGoOn(read.substring(0, offset + 1))) offset++;
        return offset;
    }

    private static boolean canGoOn(String beginning) {
        for (String end : new String[] {"", "1", "a1"}) {
            if (FORMATION.matcher(beginning + end).matches()) return true;
        }
        return false;
    }

    int flightTime(int from, int to) {
        if (outside(from) || outside(to)) return BAD;
        return time(from, to);
    }

    int assigned(int drone) {
        if (drone < 0 || drone >= drones.size()) return NONE;
        if (drones.size() != slots.size()) return MISMATCH;
        List<Choice> all = choices();
        return all.isEmpty() ? NO_ASSIGNMENT : all.get(0).slots.get(drone);
    }

    int assignment(int what) {
        if (what < 0 || what > 3) return BAD;
        if (drones.size() != slots.size()) return MISMATCH;
        List<Choice> all = choices();
        if (all.isEmpty()) return NO_ASSIGNMENT;
        Choice best = all.get(0);
        if (what == 0) return best.greatest;
        if (what == 1) return best.sum;
        if (what == 3) return all.size();
        return (int) all.stream().filter(c -> c.greatest == best.greatest).count();
    }

    int plan() {
        if (drones.size() != slots.size()) return MISMATCH;
        List<Choice> all = choices();
        if (all.isEmpty()) return NO_ASSIGNMENT;
        List<Integer> goal = all.get(0).slots;
        List<Integer> order = new ArrayList<>();
        for (int d = 0; d < drones.size(); d++) order.add(d);
        order.sort(Comparator.<Integer>comparingInt(d -> -time(drones.get(d), slots.get(goal.get(d)))).thenComparingInt(d -> d));
        flights = null;
        stuck = NONE;
        passed = 0;
        Flown[] made = new Flown[drones.size()];
        int end = 0;
        for (int place = 0; place < order.size(); place++) {
            int d = order.get(place);
            made[d] = findFlight(drones.get(d), goal.get(d), place, made);
            if (made[d] == null) {
                stuck = d;
                return NO_PLAN;
            }
            end = Math.max(end, made[d].arrival);
        }
        flights = made;
        return end;
    }

    int stuck() { return stuck; }

    int at(int drone, int time) {
        int error = error(drone, time < 0 || time > 60);
        return error != 0 ? error : flights[drone].cell(passed + time);
    }

    int action(int drone, int time) {
        int error = error(drone, time < 0 || time > 59);
        if (error != 0) return error;
        return passed + time < flights[drone].arrival ? flights[drone].actions[passed + time] : 0;
    }

    int flight(int drone, int what) {
        int error = error(drone, what < 0 || what > 4);
        if (error != 0) return error;
        Flown f = flights[drone];
        if (what == 0) return f.arrival > passed ? f.arrival - passed : 0;
        if (what == 2) return time(drones.get(drone), slots.get(f.slot));
        if (what == 3) return f.place;
        if (what == 4) return f.slot;
        int waits = 0;
        for (int t = 0; t < f.arrival; t++) if (t >= passed && f.actions[t] == 0) waits++;
        return waits;
    }

    int explain(int drone, int time) {
        int error = error(drone, time < 0 || time > 59);
        if (error != 0) return error;
        int t = passed + time;
        Flown f = flights[drone];
        if (t >= f.arrival || f.actions[t] != 0) return NONE;
        List<Integer> cells = wayCells(f.cell(t), slots.get(f.slot));
        if (cells.size() == 1) return NONE;
        // The first action ends where the way is in another cell for the first time.
        int ticks = cells.get(1).equals(cells.get(0)) ? 2 : 1;
        for (int other = 0; other < flights.length; other++) {
            Flown o = flights[other];
            if (o.place >= f.place) continue;
            boolean met = false;
            for (int k = 1; k <= ticks; k++) met |= o.cell(t + k) == cells.get(k);
            met |= o.cell(t + ticks) == cells.get(ticks - 1) && o.cell(t + ticks - 1) == cells.get(ticks);
            if (met) return other;
        }
        return NONE;
    }

    int conflictsWithout() {
        if (flights == null) return NO_PLAN;
        int pairs = 0;
        for (int a = 0; a < flights.length; a++) {
            for (int b = a + 1; b < flights.length; b++) {
                if (collide(wayCells(drones.get(a), slots.get(flights[a].slot)), wayCells(drones.get(b), slots.get(flights[b].slot)))) pairs++;
            }
        }
        return pairs;
    }

    int fly(int ticks) {
        if (ticks < 1 || ticks > 60) return BAD;
        if (flights == null) return NO_PLAN;
        remember();
        flown += ticks;
        passed += ticks;
        int arrived = 0;
        for (int d = 0; d < drones.size(); d++) {
            drones.set(d, flights[d].cell(passed));
            if (flights[d].arrival <= passed) arrived++;
        }
        return arrived;
    }

    int greatestWith(int layer, int wind) {
        if (layer < 0 || layer > 2 || wind < 0 || wind > 4) return BAD;
        if (drones.size() != slots.size()) return MISMATCH;
        int before = winds.set(layer, wind);
        timesFrom.clear();
        List<Choice> all = choices();
        winds.set(layer, before);
        timesFrom.clear();
        return all.isEmpty() ? NO_ASSIGNMENT : all.get(0).greatest;
    }

    int cellOf(int what, int number) {
        if (what != 0 && what != 1) return BAD;
        List<Integer> places = what == 0 ? drones : slots;
        return number < 0 || number >= places.size() ? NONE : places.get(number);
    }

    int look(int cell) {
        if (outside(cell)) return BAD;
        if (walls.contains(cell)) return 1;
        int seen = 0;
        if (drones.contains(cell)) seen += 10 + 10 * drones.indexOf(cell);
        if (slots.contains(cell)) seen += 100 + 100 * slots.indexOf(cell);
        return seen;
    }

    int count(int what) {
        if (what == 0) return drones.size();
        if (what == 1) return slots.size();
        if (what == 2) return walls.size();
        if (what == 3) return (int) drones.stream().filter(slots::contains).count();
        if (what == 4) return flown;
        if (what == 5) return past.size();
        if (what == 6) return text.length();
        if (what == 7) return flights == null ? 0 : 1;
        return BAD;
    }

    int undo() {
        discard();
        if (past.isEmpty()) return NONE;
        Scene scene = past.pollLast();
        winds = new ArrayList<>(scene.winds);
        walls = new HashSet<>(scene.walls);
        drones = new ArrayList<>(scene.drones);
        slots = new ArrayList<>(scene.slots);
        flown = scene.flown;
        return past.size();
    }

    // ---- below the face

    private int error(int drone, boolean outOfRange) {
        if (drone < 0 || drone >= drones.size()) return NONE;
        if (outOfRange) return BAD;
        return flights == null ? NO_PLAN : 0;
    }

    private void remember() {
        past.addLast(new Scene(List.copyOf(winds), Set.copyOf(walls), List.copyOf(drones), List.copyOf(slots), flown));
        if (past.size() > 8) past.pollFirst();
    }

    private void discard() {
        flights = null;
        stuck = NONE;
        timesFrom.clear();
    }

    private void change() {
        remember();
        discard();
    }

    private static boolean outside(int cell) { return cell < 0 || cell > 107; }

    /** The cell that a move leads to, or NONE. */
    private int target(int cell, int action) {
        int[] step = STEPS[action];
        int x = cell % 6 + step[0], y = cell / 6 % 6 + step[1], z = cell / 36 + step[2];
        if (x < 0 || x > 5 || y < 0 || y > 5 || z < 0 || z > 2) return NONE;
        int to = 36 * z + 6 * y + x;
        return walls.contains(to) ? NONE : to;
    }

    private int cost(int cell, int action) {
        int wind = winds.get(cell / 36);
        boolean against = action == 1 && wind == 2 || action == 2 && wind == 1 || action == 3 && wind == 4 || action == 4 && wind == 3;
        return against ? 2 : 1;
    }

    private int time(int from, int to) {
        if (walls.contains(from) || walls.contains(to)) return NONE;
        return timesFrom.computeIfAbsent(from, this::dijkstra)[to];
    }

    private int[] dijkstra(int from) {
        int[] times = new int[108];
        Arrays.fill(times, NONE);
        PriorityQueue<int[]> queue = new PriorityQueue<>(Comparator.comparingInt(e -> e[0]));
        queue.add(new int[] {0, from});
        while (!queue.isEmpty()) {
            int[] head = queue.poll();
            if (times[head[1]] != NONE) continue;
            times[head[1]] = head[0];
            for (int a = 1; a <= 6; a++) {
                int to = target(head[1], a);
                if (to != NONE) queue.add(new int[] {head[0] + cost(head[1], a), to});
            }
        }
        return times;
    }

    /** All assignments, the best first. */
    private List<Choice> choices() {
        List<Choice> all = new ArrayList<>();
        collect(new ArrayList<>(), 0, 0, all);
        all.sort(Comparator.comparingInt(Choice::greatest).thenComparingInt(Choice::sum).thenComparing(Choice::slots, Oracle::compareLists));
        return all;
    }

    private void collect(List<Integer> chosen, int greatest, int sum, List<Choice> all) {
        int drone = chosen.size();
        if (drone == drones.size()) {
            all.add(new Choice(greatest, sum, List.copyOf(chosen)));
            return;
        }
        for (int slot = slots.size() - 1; slot >= 0; slot--) {
            int time = time(drones.get(drone), slots.get(slot));
            if (chosen.contains(slot) || time == NONE) continue;
            chosen.add(slot);
            collect(chosen, Math.max(greatest, time), sum + time, all);
            chosen.remove(chosen.size() - 1);
        }
    }

    private static int compareLists(List<Integer> a, List<Integer> b) {
        for (int i = 0; i < a.size(); i++) {
            int order = Integer.compare(a.get(i), b.get(i));
            if (order != 0) return order;
        }
        return 0;
    }

    private Flown findFlight(int start, int slot, int place, Flown[] made) {
        int goal = slots.get(slot);
        for (int arrival = 0; arrival <= 60; arrival++) {
            boolean free = true;
            for (Flown f : made) {
                for (int t = arrival; f != null && t <= 60; t++) free &= f.cell(t) != goal;
            }
            int[] actions = new int[62];
            if (free && search(start, 0, arrival, goal, made, actions, new HashSet<>())) {
                return new Flown(cellsOf(start, actions, arrival), actions, arrival, slot, place);
            }
        }
        return null;
    }

    /** Searches in depth, the least action first; writes the action of each tick. */
    private boolean search(int cell, int time, int arrival, int goal, Flown[] made, int[] actions, Set<Integer> dead) {
        if (time == arrival) return cell == goal;
        if (time > arrival || dead.contains(time * 108 + cell)) return false;
        for (int a = 0; a <= 6; a++) {
            int to = a == 0 ? cell : target(cell, a);
            if (to == NONE) continue;
            int ticks = a == 0 ? 1 : cost(cell, a);
            if (time + ticks > arrival) continue;
            int[] stay = {cell, ticks == 2 ? cell : to, to};
            boolean free = true;
            for (Flown f : made) {
                for (int k = 1; f != null && k <= ticks; k++) {
                    free &= f.cell(time + k) != stay[k];
                    free &= !(f.cell(time + k) == stay[k - 1] && f.cell(time + k - 1) == stay[k]);
                }
            }
            if (!free) continue;
            for (int k = 0; k < ticks; k++) actions[time + k] = a;
            if (search(to, time + ticks, arrival, goal, made, actions, dead)) return true;
        }
        dead.add(time * 108 + cell);
        return false;
    }

    private int[] cellsOf(int start, int[] actions, int arrival) {
        int[] cells = new int[61];
        int cell = start, time = 0;
        cells[0] = start;
        while (time < arrival) {
            int a = actions[time];
            if (a != 0 && cost(cell, a) == 2) cells[++time] = cell;
            cell = a == 0 ? cell : target(cell, a);
            cells[++time] = cell;
        }
        while (time < 60) cells[++time] = cell;
        return cells;
    }

    /** The cells, tick by tick, of the least way of least flight time. */
    private List<Integer> wayCells(int from, int to) {
        List<Integer> cells = new ArrayList<>(List.of(from));
        int cell = from;
        while (cell != to) {
            for (int a = 1; ; a++) {
                int next = target(cell, a);
                if (next == NONE || time(next, to) == NONE || time(next, to) + cost(cell, a) != time(cell, to)) continue;
                if (cost(cell, a) == 2) cells.add(cell);
                cells.add(next);
                cell = next;
                break;
            }
        }
        return cells;
    }

    private static boolean collide(List<Integer> a, List<Integer> b) {
        for (int t = 0; t < Math.max(a.size(), b.size()); t++) {
            int a0 = a.get(Math.min(t, a.size() - 1)), a1 = a.get(Math.min(t + 1, a.size() - 1));
            int b0 = b.get(Math.min(t, b.size() - 1)), b1 = b.get(Math.min(t + 1, b.size() - 1));
            if (a0 == b0 || a1 == b1 || (a0 == b1 && a1 == b0)) return true;
        }
        return false;
    }
}
