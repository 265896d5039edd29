import java.util.Arrays;

/**
 * A planner for a swarm of drones that change from one formation to another on a lattice with
 * layers, winds and obstacles.
 */
public final class FormationPlanner {
    public static final int NONE = -1;
    public static final int BAD_ARGUMENT = -2;
    public static final int FULL = -3;
    public static final int TAKEN = -4;
    public static final int MISMATCH = -5;
    public static final int NO_ASSIGNMENT = -6;
    public static final int NO_PLAN = -7;

    private static final int COLUMNS = 6;
    private static final int ROWS = 6;
    private static final int LAYERS = 3;
    private static final int LAYER_CELLS = 36;
    private static final int CELLS = 108;
    private static final int WINDS = 5;
    private static final int WAIT = 0;
    private static final int ACTIONS = 7;
    private static final int MOST_PLACES = 6;
    private static final int MOST_ORDERS = 720;
    private static final int MOST_TICKS = 2 * CELLS;
    private static final int LAST_TIME = 60;
    private static final int TIMES = LAST_TIME + 1;
    private static final int SPOTS = TIMES * CELLS;
    private static final int MOST_SIGNS = 60;
    private static final int SIGNS = 128;
    private static final int MOST_UNDONE = 8;
    private static final int SYNTAX_ERROR = -100;
    /** By action, the action that leads back; a wind has the number of the move along with it. */
    private static final int[] BACK = {0, 2, 1, 4, 3, 6, 5};
    private static final int[] COLUMN_STEP = {0, 1, -1, 0, 0, 0, 0};
    private static final int[] ROW_STEP = {0, 0, 0, 1, -1, 0, 0};
    private static final int[] LAYER_STEP = {0, 0, 0, 0, 0, 1, -1};

    private final Scene scene;
    private final History history;
    private final Formation text;
    private final TimesTo timesTo;
    private final Assigner assigner;
    private final Plan plan;

    public FormationPlanner() {
        scene = new Scene();
        history = new History();
        text = new Formation();
        Lattice lattice = new Lattice(scene);
        timesTo = new TimesTo(lattice);
        assigner = new Assigner(scene, lattice);
        plan = new Plan(scene, lattice);
    }

    public int setWind(int layer, int wind) {
        if (!isLayer(layer) || !isWind(wind)) {
            return BAD_ARGUMENT;
        }
        beginChange();
        int before = scene.winds[layer];
        scene.winds[layer] = wind;
        return before;
    }

    public int setObstacle(int cell, int on) {
        if (!isCell(cell) || on < 0 || on > 1) {
            return BAD_ARGUMENT;
        }
        if (on == 1 && (scene.drones.find(cell) != NONE || scene.slots.find(cell) != NONE)) {
            return TAKEN;
        }
        beginChange();
        int before = scene.obstacles[cell];
        scene.obstacles[cell] = on;
        return before;
    }

    public int addDrone(int cell) {
        return addPlace(scene.drones, cell);
    }

    public int removeDrone(int drone) {
        // NONE is no error code: such a call discards the plan and can be undone like any other.
        beginChange();
        return scene.drones.remove(drone) ? scene.drones.size : NONE;
    }

    public int addSlot(int cell) {
        return addPlace(scene.slots, cell);
    }

    public int clearSlots() {
        beginChange();
        int removed = scene.slots.size;
        scene.slots.clear();
        return removed;
    }

    public int append(int code, int count) {
        if (code < 0 || code >= SIGNS || count < 1 || count > MOST_SIGNS) {
            return BAD_ARGUMENT;
        }
        return text.lengthen(code, count) ? text.length : FULL;
    }

    public int readSlots() {
        int found = text.read();
        if (found < 0) {
            return found;
        }
        if (found > MOST_PLACES) {
            return FULL;
        }
        if (text.repeats || hasObstacle(text.places)) {
            return TAKEN;
        }
        beginChange();
        scene.slots.copyFrom(text.places);
        return found;
    }

    public int flightTime(int from, int to) {
        if (!isCell(from) || !isCell(to)) {
            return BAD_ARGUMENT;
        }
        timesTo.measure(to);
        return timesTo.timeFrom(from);
    }

    public int assigned(int drone) {
        if (!scene.drones.has(drone)) {
            return NONE;
        }
        int error = assigner.assign();
        return error != 0 ? error : assigner.slotOf(drone);
    }

    public int assignment(int what) {
        if (what < 0 || what > 3) {
            return BAD_ARGUMENT;
        }
        int error = assigner.assign();
        if (error != 0) {
            return error;
        }
        switch (what) {
            case 0: return assigner.greatest;
            case 1: return assigner.sum;
            case 2: return assigner.alike;
            default: return assigner.all;
        }
    }

    public int plan() {
        int error = assigner.assign();
        return error != 0 ? error : plan.make(assigner);
    }

    public int stuck() {
        return plan.stuckDrone;
    }

    public int at(int drone, int time) {
        int error = planError(drone, time >= 0 && time <= LAST_TIME);
        return error != 0 ? error : plan.cellOfDrone(drone, time);
    }

    public int action(int drone, int time) {
        int error = planError(drone, time >= 0 && time < LAST_TIME);
        return error != 0 ? error : plan.actionOfDrone(drone, time);
    }

    public int flight(int drone, int what) {
        int error = planError(drone, what >= 0 && what <= 4);
        if (error != 0) {
            return error;
        }
        switch (what) {
            case 0: return plan.ticksLeft(drone);
            case 1: return plan.waitsLeft(drone);
            case 2: return plan.timeWithoutOthers(drone);
            case 3: return plan.positionOf(drone);
            default: return plan.slotOf(drone);
        }
    }

    public int explain(int drone, int time) {
        int error = planError(drone, time >= 0 && time < LAST_TIME);
        return error != 0 ? error : plan.hinderer(drone, time);
    }

    public int conflictsWithout() {
        return plan.stands ? plan.pairsInConflict() : NO_PLAN;
    }

    public int fly(int ticks) {
        if (ticks < 1 || ticks > LAST_TIME) {
            return BAD_ARGUMENT;
        }
        if (!plan.stands) {
            return NO_PLAN;
        }
        history.keep(scene);
        scene.flown += ticks;
        return plan.advance(ticks);
    }

    public int greatestWith(int layer, int wind) {
        if (!isLayer(layer) || !isWind(wind)) {
            return BAD_ARGUMENT;
        }
        int before = scene.winds[layer];
        scene.winds[layer] = wind;
        int error = assigner.assign();
        scene.winds[layer] = before;
        return error != 0 ? error : assigner.greatest;
    }

    public int cellOf(int what, int number) {
        if (what < 0 || what > 1) {
            return BAD_ARGUMENT;
        }
        return what == 0 ? scene.drones.cellAt(number) : scene.slots.cellAt(number);
    }

    public int look(int cell) {
        if (!isCell(cell)) {
            return BAD_ARGUMENT;
        }
        if (scene.obstacles[cell] != 0) {
            return 1;
        }
        // NONE is -1, so that a number and 1 more is 0 where there is nothing.
        return 10 * (scene.drones.find(cell) + 1) + 100 * (scene.slots.find(cell) + 1);
    }

    public int count(int what) {
        switch (what) {
            case 0: return scene.drones.size;
            case 1: return scene.slots.size;
            case 2: return scene.obstacleCount();
            case 3: return scene.dronesAtSlots();
            case 4: return scene.flown;
            case 5: return history.size;
            case 6: return text.length;
            case 7: return plan.stands ? 1 : 0;
            default: return BAD_ARGUMENT;
        }
    }

    public int undo() {
        // NONE is no error code: the plan goes then too.
        plan.discard();
        return history.bringBack(scene) ? history.size : NONE;
    }

    private void beginChange() {
        history.keep(scene);
        plan.discard();
    }

    private int addPlace(Places places, int cell) {
        if (!isCell(cell)) {
            return BAD_ARGUMENT;
        }
        if (places.size >= MOST_PLACES) {
            return FULL;
        }
        if (scene.obstacles[cell] != 0 || places.find(cell) != NONE) {
            return TAKEN;
        }
        beginChange();
        places.add(cell);
        return places.size - 1;
    }

    private boolean hasObstacle(Places places) {
        for (int number = 0; number < places.size; number++) {
            if (scene.hasObstacleAt(places.cellAt(number))) {
                return true;
            }
        }
        return false;
    }

    /** What a question about a drone of the plan answers instead, or 0. */
    private int planError(int drone, boolean inRange) {
        if (!scene.drones.has(drone)) {
            return NONE;
        }
        if (!inRange) {
            return BAD_ARGUMENT;
        }
        return plan.stands ? 0 : NO_PLAN;
    }

    private static boolean isCell(int cell) {
        return cell >= 0 && cell < CELLS;
    }

    private static boolean isLayer(int layer) {
        return layer >= 0 && layer < LAYERS;
    }

    private static boolean isWind(int wind) {
        return wind >= 0 && wind < WINDS;
    }

    private static boolean isAction(int action) {
        return action >= 0 && action < ACTIONS;
    }

    /** The cells of the drones or of the slots, by their numbers. */
    private static final class Places {
        final int[] cells = new int[MOST_PLACES];
        int size;

        boolean has(int number) {
            return number >= 0 && number < size && number < MOST_PLACES;
        }

        int cellAt(int number) {
            return has(number) ? cells[number] : NONE;
        }

        int find(int cell) {
            for (int number = 0; number < size && number < MOST_PLACES; number++) {
                if (cells[number] == cell) {
                    return number;
                }
            }
            return NONE;
        }

        void add(int cell) {
            if (size >= 0 && size < MOST_PLACES) {
                cells[size] = cell;
                size++;
            }
        }

        boolean remove(int number) {
            if (!has(number)) {
                return false;
            }
            for (int later = number + 1; later < size && later < MOST_PLACES; later++) {
                cells[later - 1] = cells[later];
            }
            size--;
            return true;
        }

        void move(int number, int cell) {
            if (has(number)) {
                cells[number] = cell;
            }
        }

        void clear() {
            size = 0;
        }

        void copyFrom(Places other) {
            System.arraycopy(other.cells, 0, cells, 0, MOST_PLACES);
            size = other.size;
        }
    }

    /** All that an undo brings back. */
    private static final class Scene {
        final int[] winds = new int[LAYERS];
        final int[] obstacles = new int[CELLS];
        final Places drones = new Places();
        final Places slots = new Places();
        int flown;

        boolean hasObstacleAt(int cell) {
            return isCell(cell) && obstacles[cell] != 0;
        }

        int obstacleCount() {
            int sum = 0;
            for (int cell = 0; cell < CELLS; cell++) {
                sum += obstacles[cell];
            }
            return sum;
        }

        int dronesAtSlots() {
            int sum = 0;
            for (int drone = 0; drone < drones.size; drone++) {
                if (slots.find(drones.cellAt(drone)) != NONE) {
                    sum++;
                }
            }
            return sum;
        }

        void copyFrom(Scene other) {
            System.arraycopy(other.winds, 0, winds, 0, LAYERS);
            System.arraycopy(other.obstacles, 0, obstacles, 0, CELLS);
            drones.copyFrom(other.drones);
            slots.copyFrom(other.slots);
            flown = other.flown;
        }
    }

    /** The scenes before the latest changes, in a ring, so that the oldest is overwritten. */
    private static final class History {
        final Scene[] scenes = new Scene[MOST_UNDONE];
        int next;
        int size;

        History() {
            for (int i = 0; i < MOST_UNDONE; i++) {
                scenes[i] = new Scene();
            }
        }

        void keep(Scene scene) {
            scenes[Math.floorMod(next, MOST_UNDONE)].copyFrom(scene);
            next = Math.floorMod(next + 1, MOST_UNDONE);
            size = Math.min(size + 1, MOST_UNDONE);
        }

        boolean bringBack(Scene scene) {
            if (size == 0) {
                return false;
            }
            next = Math.floorMod(next - 1, MOST_UNDONE);
            scene.copyFrom(scenes[Math.floorMod(next, MOST_UNDONE)]);
            size--;
            return true;
        }
    }

    /** The text, and the formation that was read from it. */
    private static final class Formation {
        final int[] signs = new int[MOST_SIGNS];
        final Places places = new Places();
        int length;
        int offset;
        boolean repeats;

        boolean lengthen(int code, int count) {
            if (length + count > MOST_SIGNS) {
                return false;
            }
            for (int turn = 0; turn < count && length >= 0 && length < MOST_SIGNS; turn++) {
                signs[length] = code;
                length++;
            }
            return true;
        }

        /** Empties the text; answers the number of its positions or the syntax error. */
        int read() {
            offset = 0;
            repeats = false;
            places.clear();
            int found = readPositions();
            length = 0;
            return found;
        }

        private int readPositions() {
            for (int found = 1; found <= MOST_SIGNS; found++) {
                if (!readPosition()) {
                    return SYNTAX_ERROR - offset;
                }
                if (offset >= length) {
                    return found;
                }
                if (signHere() != ' ') {
                    return SYNTAX_ERROR - offset;
                }
                offset++;
            }
            return SYNTAX_ERROR - offset;
        }

        /** Stops at the first sign that cannot continue a position. */
        private boolean readPosition() {
            int column = signHere() - 'a';
            if (column < 0 || column >= COLUMNS) {
                return false;
            }
            offset++;
            int row = signHere() - '1';
            if (row < 0 || row >= ROWS) {
                return false;
            }
            offset++;
            int layer = 0;
            while (layer < LAYERS - 1 && signHere() == '+') {
                layer++;
                offset++;
            }
            note(column + COLUMNS * row + LAYER_CELLS * layer);
            return true;
        }

        private void note(int cell) {
            if (places.find(cell) != NONE) {
                repeats = true;
            }
            places.add(cell);
        }

        /** The sign at the offset, or NONE behind the end of the text. */
        private int signHere() {
            return offset >= 0 && offset < length && offset < MOST_SIGNS ? signs[offset] : NONE;
        }
    }

    /** Where actions lead in a scene, and how long they take. */
    private static final class Lattice {
        final Scene scene;
        final int[] neighbours = new int[CELLS * ACTIONS];

        Lattice(Scene scene) {
            this.scene = scene;
            for (int cell = 0; cell < CELLS; cell++) {
                for (int action = 0; action < ACTIONS; action++) {
                    neighbours[cell * ACTIONS + action] = neighbour(cell, action);
                }
            }
        }

        /** The cell to which an action leads, or NONE if it is not possible. */
        int next(int cell, int action) {
            if (!isCell(cell) || !isAction(action)) {
                return NONE;
            }
            int to = neighbours[cell * ACTIONS + action];
            return isCell(to) && scene.obstacles[to] == 0 ? to : NONE;
        }

        int ticks(int cell, int action) {
            if (!isCell(cell) || !isAction(action)) {
                return 1;
            }
            int wind = scene.winds[cell / LAYER_CELLS];
            return wind != 0 && wind == BACK[action] ? 2 : 1;
        }

        private static int neighbour(int cell, int action) {
            if (!isAction(action)) {
                return NONE;
            }
            int column = cell % COLUMNS + COLUMN_STEP[action];
            int row = cell / COLUMNS % ROWS + ROW_STEP[action];
            int layer = cell / LAYER_CELLS + LAYER_STEP[action];
            boolean inside = column >= 0 && column < COLUMNS && row >= 0 && row < ROWS && isLayer(layer);
            return inside ? column + COLUMNS * row + LAYER_CELLS * layer : NONE;
        }
    }

    /** The flight times from all cells to one goal. */
    private static final class TimesTo {
        final Lattice lattice;
        final int[] times = new int[CELLS];

        TimesTo(Lattice lattice) {
            this.lattice = lattice;
        }

        void measure(int goal) {
            Arrays.fill(times, NONE);
            if (!isCell(goal) || lattice.scene.obstacles[goal] != 0) {
                return;
            }
            times[goal] = 0;
            int greatest = 0;
            for (int time = 0; time <= greatest && time <= MOST_TICKS; time++) {
                for (int cell = 0; cell < CELLS; cell++) {
                    if (times[cell] == time) {
                        greatest = Math.max(greatest, spreadBack(cell, time));
                    }
                }
            }
        }

        int timeFrom(int cell) {
            return isCell(cell) ? times[cell] : NONE;
        }

        /** The first action of the least way whose actions are least, WAIT if there is none. */
        int firstAction(int cell) {
            for (int action = 1; action < ACTIONS; action++) {
                int rest = timeFrom(lattice.next(cell, action));
                if (rest != NONE && rest + lattice.ticks(cell, action) == timeFrom(cell)) {
                    return action;
                }
            }
            return WAIT;
        }

        /** Lowers the times of the cells from which a move leads here; answers the greatest. */
        private int spreadBack(int cell, int time) {
            int greatest = time;
            for (int action = 1; action < ACTIONS; action++) {
                int from = lattice.next(cell, BACK[action]);
                if (isCell(from)) {
                    int longer = time + lattice.ticks(from, action);
                    if (times[from] == NONE || longer < times[from]) {
                        times[from] = longer;
                        greatest = Math.max(greatest, longer);
                    }
                }
            }
            return greatest;
        }
    }

    /** Finds the best assignment by trying all, in lexicographic order. */
    private static final class Assigner {
        final Scene scene;
        final TimesTo[] toSlot = new TimesTo[MOST_PLACES];
        final int[] trial = new int[MOST_PLACES];
        final int[] best = new int[MOST_PLACES];
        int size;
        int all;
        int alike;
        int greatest;
        int sum;

        Assigner(Scene scene, Lattice lattice) {
            this.scene = scene;
            for (int slot = 0; slot < MOST_PLACES; slot++) {
                toSlot[slot] = new TimesTo(lattice);
            }
        }

        /** Answers 0, or the error that hinders an assignment. */
        int assign() {
            if (scene.drones.size != scene.slots.size) {
                return MISMATCH;
            }
            size = Math.min(scene.drones.size, MOST_PLACES);
            all = 0;
            for (int number = 0; number < size && number < MOST_PLACES; number++) {
                toSlot[number].measure(scene.slots.cellAt(number));
                trial[number] = number;
            }
            boolean more = true;
            for (int turn = 0; turn < MOST_ORDERS && more; turn++) {
                weigh();
                more = nextTrial();
            }
            return all == 0 ? NO_ASSIGNMENT : 0;
        }

        int slotOf(int drone) {
            return drone >= 0 && drone < MOST_PLACES ? best[drone] : NONE;
        }

        int timeOf(int drone) {
            return time(drone, slotOf(drone));
        }

        private int time(int drone, int slot) {
            if (slot < 0 || slot >= MOST_PLACES) {
                return NONE;
            }
            return toSlot[slot].timeFrom(scene.drones.cellAt(drone));
        }

        private void weigh() {
            int longest = 0;
            int total = 0;
            for (int drone = 0; drone < size && drone < MOST_PLACES; drone++) {
                int time = time(drone, trial[drone]);
                if (time == NONE) {
                    return;
                }
                longest = Math.max(longest, time);
                total += time;
            }
            all++;
            if (all == 1 || longest < greatest) {
                alike = 0;
                take(longest, total);
            } else if (longest == greatest && total < sum) {
                take(longest, total);
            }
            if (longest == greatest) {
                alike++;
            }
        }

        private void take(int longest, int total) {
            greatest = longest;
            sum = total;
            System.arraycopy(trial, 0, best, 0, MOST_PLACES);
        }

        /** Makes the trial its lexicographic successor, if it has one. */
        private boolean nextTrial() {
            int rise = Math.min(size, MOST_PLACES) - 2;
            while (rise >= 0 && trial[rise] > trial[rise + 1]) {
                rise--;
            }
            if (rise < 0) {
                return false;
            }
            int greater = Math.min(size, MOST_PLACES) - 1;
            while (greater > rise && trial[greater] < trial[rise]) {
                greater--;
            }
            swap(rise, greater);
            int left = rise + 1;
            for (int right = Math.min(size, MOST_PLACES) - 1; left < right; right--) {
                swap(left, right);
                left++;
            }
            return true;
        }

        private void swap(int one, int other) {
            if (one >= 0 && one < MOST_PLACES && other >= 0 && other < MOST_PLACES) {
                int kept = trial[one];
                trial[one] = trial[other];
                trial[other] = kept;
            }
        }
    }

    /** A way through the lattice, tick by tick; behind its arrival the drone stays. */
    private static final class Flight {
        final int[] cells = new int[TIMES];
        final int[] actions = new int[TIMES];
        int arrival;
        int slot;
        int position;

        void begin(int cell) {
            arrival = 0;
            Arrays.fill(cells, cell);
            Arrays.fill(actions, WAIT);
        }

        void add(int action, int ticks, int to) {
            for (int tick = 0; tick < ticks && arrival >= 0 && arrival < LAST_TIME; tick++) {
                actions[arrival] = action;
                arrival++;
            }
            for (int time = Math.max(arrival, 0); time < TIMES; time++) {
                cells[time] = to;
            }
        }

        int cellAt(int time) {
            return cells[Math.max(0, Math.min(time, LAST_TIME))];
        }

        int actionAt(int time) {
            return time >= 0 && time < arrival && time < LAST_TIME ? actions[time] : WAIT;
        }

        boolean meets(Flight other) {
            for (int time = 0; time <= LAST_TIME; time++) {
                if (cellAt(time) == other.cellAt(time)) {
                    return true;
                }
                boolean there = cellAt(time + 1) == other.cellAt(time);
                if (there && cellAt(time) == other.cellAt(time + 1)) {
                    return true;
                }
            }
            return false;
        }
    }

    /** Finds flights through the cells and times that the flights before leave free. */
    private static final class Router {
        final Lattice lattice;
        /** By time and cell, the drone that was planned to be there, plus 1, or 0. */
        final int[] holders = new int[SPOTS];
        /** By time and cell, 1 if the flight that is looked for can be there, otherwise 0. */
        final int[] usable = new int[SPOTS];

        Router(Lattice lattice) {
            this.lattice = lattice;
        }

        void free() {
            Arrays.fill(holders, 0);
        }

        void hold(Flight flight, int drone) {
            for (int time = 0; time <= LAST_TIME; time++) {
                int spot = spot(time, flight.cellAt(time));
                if (spot != NONE) {
                    holders[spot] = drone + 1;
                }
            }
        }

        /** Marks where the drone can be; answers when it can be at its goal to stay, or NONE. */
        int earliestArrival(int start, int goal) {
            Arrays.fill(usable, 0);
            mark(spot(0, start), 1);
            int free = freeFrom(goal);
            for (int time = 0; time <= LAST_TIME; time++) {
                if (time >= free && isUsable(spot(time, goal))) {
                    return time;
                }
                for (int cell = 0; cell < CELLS; cell++) {
                    if (isUsable(spot(time, cell))) {
                        spread(time, cell);
                    }
                }
            }
            return NONE;
        }

        /** Leaves only the marks from which the drone can be at its goal at the arrival. */
        void prune(int arrival, int goal) {
            for (int time = LAST_TIME; time >= 0; time--) {
                for (int cell = 0; cell < CELLS; cell++) {
                    int spot = spot(time, cell);
                    boolean arrives = time == arrival && cell == goal;
                    if (isUsable(spot) && !arrives && (time >= arrival || leastAction(time, cell) == NONE)) {
                        mark(spot, 0);
                    }
                }
            }
        }

        /** Writes the flight along the marks that are left, always by the least action. */
        void follow(Flight flight, int start, int arrival) {
            flight.begin(start);
            int cell = start;
            for (int turn = 0; turn < LAST_TIME && flight.arrival < arrival; turn++) {
                int action = leastAction(flight.arrival, cell);
                int to = lattice.next(cell, action);
                flight.add(action, lattice.ticks(cell, action), to);
                cell = to;
            }
        }

        /** The time from which on no flight that was planned before is in the cell. */
        private int freeFrom(int cell) {
            int free = 0;
            for (int time = 0; time <= LAST_TIME; time++) {
                int spot = spot(time, cell);
                if (spot != NONE && holders[spot] != 0) {
                    free = time + 1;
                }
            }
            return free;
        }

        private void spread(int time, int cell) {
            for (int action = 0; action < ACTIONS; action++) {
                mark(landing(time, cell, action), 1);
            }
        }

        private int leastAction(int time, int cell) {
            for (int action = 0; action < ACTIONS; action++) {
                if (isUsable(landing(time, cell, action))) {
                    return action;
                }
            }
            return NONE;
        }

        /** The spot to which an action leads from a time on, or NONE if it must not be. */
        private int landing(int time, int cell, int action) {
            int to = lattice.next(cell, action);
            if (to == NONE) {
                return NONE;
            }
            if (lattice.ticks(cell, action) == 1) {
                return canStep(time, cell, to) ? spot(time + 1, to) : NONE;
            }
            boolean can = canStep(time, cell, cell) && canStep(time + 1, cell, to);
            return can ? spot(time + 2, to) : NONE;
        }

        /** Whether a tick leads to a free cell, and not by exchanging cells. */
        private boolean canStep(int time, int from, int to) {
            if (time < 0 || time >= LAST_TIME || !isCell(from) || !isCell(to)) {
                return false;
            }
            int before = time * CELLS;
            int after = before + CELLS;
            if (holders[after + to] != 0) {
                return false;
            }
            int met = holders[before + to];
            return met == 0 || holders[after + from] != met;
        }

        private boolean isUsable(int spot) {
            return spot >= 0 && spot < SPOTS && usable[spot] != 0;
        }

        private void mark(int spot, int mark) {
            if (spot >= 0 && spot < SPOTS) {
                usable[spot] = mark;
            }
        }

        private static int spot(int time, int cell) {
            return time >= 0 && time < TIMES && isCell(cell) ? time * CELLS + cell : NONE;
        }
    }

    /** The plan with its flights, and how much of it was flown. */
    private static final class Plan {
        final Scene scene;
        final Lattice lattice;
        final TimesTo timesTo;
        final Router router;
        final Flight[] flights = new Flight[MOST_PLACES];
        final Flight[] ways = new Flight[MOST_PLACES];
        final int[] order = new int[MOST_PLACES];
        boolean stands;
        int stuckDrone = NONE;
        int size;
        int now;

        Plan(Scene scene, Lattice lattice) {
            this.scene = scene;
            this.lattice = lattice;
            timesTo = new TimesTo(lattice);
            router = new Router(lattice);
            for (int drone = 0; drone < MOST_PLACES; drone++) {
                flights[drone] = new Flight();
                ways[drone] = new Flight();
            }
        }

        void discard() {
            stands = false;
            stuckDrone = NONE;
        }

        int make(Assigner assigner) {
            discard();
            now = 0;
            size = Math.min(assigner.size, MOST_PLACES);
            takeOrder(assigner);
            router.free();
            int end = 0;
            for (int position = 0; position < size && position < MOST_PLACES; position++) {
                int drone = order[position];
                int start = scene.drones.cellAt(drone);
                int arrival = router.earliestArrival(start, goalOf(drone));
                if (arrival == NONE) {
                    stuckDrone = drone;
                    return NO_PLAN;
                }
                router.prune(arrival, goalOf(drone));
                router.follow(flightOf(drone), start, arrival);
                router.hold(flightOf(drone), drone);
                end = Math.max(end, arrival);
            }
            stands = true;
            return end;
        }

        int cellOfDrone(int drone, int time) {
            return flightOf(drone).cellAt(now + time);
        }

        int actionOfDrone(int drone, int time) {
            return flightOf(drone).actionAt(now + time);
        }

        int positionOf(int drone) {
            return flightOf(drone).position;
        }

        int slotOf(int drone) {
            return flightOf(drone).slot;
        }

        int ticksLeft(int drone) {
            return Math.max(0, flightOf(drone).arrival - now);
        }

        int waitsLeft(int drone) {
            Flight flight = flightOf(drone);
            int waits = 0;
            for (int time = now; time < flight.arrival; time++) {
                if (flight.actionAt(time) == WAIT) {
                    waits++;
                }
            }
            return waits;
        }

        int timeWithoutOthers(int drone) {
            timesTo.measure(goalOf(drone));
            return timesTo.timeFrom(scene.drones.cellAt(drone));
        }

        /** The drone that the first action of the way without others would have met, or NONE. */
        int hinderer(int drone, int time) {
            Flight flight = flightOf(drone);
            int start = now + time;
            if (start >= flight.arrival || flight.actionAt(start) != WAIT) {
                return NONE;
            }
            timesTo.measure(goalOf(drone));
            int cell = flight.cellAt(start);
            int action = timesTo.firstAction(cell);
            if (action == WAIT) {
                return NONE;
            }
            for (int other = 0; other < size && other < MOST_PLACES; other++) {
                boolean before = flights[other].position < flight.position;
                if (before && isMet(flights[other], start, cell, action)) {
                    return other;
                }
            }
            return NONE;
        }

        int pairsInConflict() {
            int pairs = 0;
            for (int drone = 0; drone < size && drone < MOST_PLACES; drone++) {
                layWay(drone);
                for (int other = 0; other < drone; other++) {
                    if (ways[drone].meets(ways[other])) {
                        pairs++;
                    }
                }
            }
            return pairs;
        }

        /** Flies; answers the number of drones that have arrived then. */
        int advance(int ticks) {
            // Behind the last time nothing changes, so that there is no need to count on.
            now = Math.min(now + ticks, LAST_TIME);
            int arrived = 0;
            for (int drone = 0; drone < size; drone++) {
                scene.drones.move(drone, cellOfDrone(drone, 0));
                if (ticksLeft(drone) == 0) {
                    arrived++;
                }
            }
            return arrived;
        }

        private Flight flightOf(int drone) {
            return flights[Math.max(0, Math.min(drone, MOST_PLACES - 1))];
        }

        private void takeOrder(Assigner assigner) {
            for (int drone = 0; drone < size; drone++) {
                int position = 0;
                for (int other = 0; other < size; other++) {
                    int longer = assigner.timeOf(other) - assigner.timeOf(drone);
                    if (longer > 0 || longer == 0 && other < drone) {
                        position++;
                    }
                }
                flightOf(drone).position = position;
                flightOf(drone).slot = assigner.slotOf(drone);
                if (position < MOST_PLACES) {
                    order[position] = drone;
                }
            }
        }

        private int goalOf(int drone) {
            return scene.slots.cellAt(flightOf(drone).slot);
        }

        private boolean isMet(Flight other, int start, int cell, int action) {
            int to = lattice.next(cell, action);
            int ticks = lattice.ticks(cell, action);
            int end = start + ticks;
            if (ticks == 2 && other.cellAt(start + 1) == cell) {
                return true;
            }
            if (other.cellAt(end) == to) {
                return true;
            }
            return other.cellAt(end - 1) == to && other.cellAt(end) == cell;
        }

        private void layWay(int drone) {
            if (drone < 0 || drone >= MOST_PLACES) {
                return;
            }
            timesTo.measure(goalOf(drone));
            int cell = scene.drones.cellAt(drone);
            ways[drone].begin(cell);
            int action = timesTo.firstAction(cell);
            for (int turn = 0; turn < LAST_TIME && action != WAIT; turn++) {
                int to = lattice.next(cell, action);
                ways[drone].add(action, lattice.ticks(cell, action), to);
                cell = to;
                action = timesTo.firstAction(cell);
            }
        }
    }
}
