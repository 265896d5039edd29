/** For each sentence of the document's description that names a boundary, a test of its own. */
public final class DescriptionTest extends Calls {
    private static final int[] STEPS = {0, 1, -1, 6, -6, 36, -36};
    private static final int[] AGAINST = {0, 2, 1, 4, 3};

    public static void main(String[] args) {
        use();
        lattice();
        actions();
        dronesAndSlots();
        assignment();
        plans();
        flying();
        explanations();
        text();
        checks.end();
    }

    private static void use() {
        lastCalls();
    }

    private static void lattice() {
        numbersOfCells();
        everyCellAnObstacle();
        noCellAnObstacleAgain();
        windsOfLayers();
        atFirst();
    }

    private static void actions() {
        numbersOfActions();
        ticksOfActions();
        stillInItsCell();
        notOutOfTheLattice();
        notThroughObstacles();
        leastNumberOfTicks();
    }

    private static void dronesAndSlots() {
        sixDrones();
        sixSlots();
        noObstacleThere();
        noTwoAtTheSameCell();
        laterNumbersDecrease();
    }

    private static void assignment() {
        asManyDronesAsSlots();
        toWhichItCanFly();
        leastGreatestTime();
        leastSum();
        lexicographicallyLeast();
        emptyAssignment();
    }

    private static void plans() {
        orderOfPlanning();
        atItsSlotAtTimeZero();
        atItsSlotBefore();
        staysFromItsArrivalOn();
        notInTheSameCell();
        notExchanging();
        at60AtTheLatest();
        at60AfterAWait();
        notAt61AfterAWait();
        notYetPlanned();
        earliestArrival();
        leastActions();
        stuckDrone();
        endOfThePlan();
    }

    private static void flying() {
        theRestRemains();
        theWholeMoveAgain();
        discarding();
        discardingWithoutADifference();
        notDiscarding();
        beyondTheEnd();
    }

    private static void explanations() {
        beforeItsArrival();
        beginsToWait();
        lowestNumber();
        plannedBefore();
        behindTheirArrival();
        byExchanging();
        leastWayWithoutOthers();
    }

    private static void text() {
        sixtyCharacters();
        letters();
        digits();
        layers();
        spaces();
        tooEarly();
    }

    // ---- What it is

    private static void lastCalls() {
        FormationPlanner x = start("An object is used for at most 512 calls after it has been made");
        due("addDrone(0)", x.addDrone(0), 0);
        due("addSlot(1)", x.addSlot(1), 0);
        due("plan()", x.plan(), 1);
        for (int call = 4; call <= 509; call++) due("fly(60), call " + call, x.fly(60), 1);
        due("count(4), call 510", x.count(4), 506 * 60);
        due("count(5), call 511", x.count(5), 8);
        due("undo(), call 512", x.undo(), 7);
    }

    // ---- Lattice

    private static void numbersOfCells() {
        FormationPlanner x = start("108 cells: 6 columns, 6 rows and 3 layers; the number x + 6 * y + 36 * z");
        int calls = 0;
        for (int from = 0; from < 108; from++) {
            for (int to = 0; to < 108; to++) {
                if (++calls % 500 == 0) x = new FormationPlanner();
                int columns = Math.abs(from % 6 - to % 6), rows = Math.abs(from / 6 % 6 - to / 6 % 6);
                due("flightTime(" + from + ", " + to + ")", x.flightTime(from, to), columns + rows + Math.abs(from / 36 - to / 36));
            }
        }
        due("look(107)", x.look(107), 0);
        due("look(108)", x.look(108), BAD);
    }

    private static void everyCellAnObstacle() {
        FormationPlanner x = start("A cell can be an obstacle, also every one");
        for (int cell = 0; cell < 108; cell++) {
            due("setObstacle(" + cell + ", 1)", x.setObstacle(cell, 1), 0);
            due("count(2)", x.count(2), cell + 1);
        }
        for (int cell = 0; cell < 108; cell++) due("look(" + cell + ")", x.look(cell), 1);
        due("addDrone(0)", x.addDrone(0), TAKEN);
        due("addSlot(107)", x.addSlot(107), TAKEN);
        due("flightTime(0, 1)", x.flightTime(0, 1), NONE);
        due("plan()", x.plan(), 0);
    }

    private static void noCellAnObstacleAgain() {
        FormationPlanner x = start("A cell can be an obstacle, and then none again");
        for (int cell = 0; cell < 108; cell++) x.setObstacle(cell, 1);
        for (int cell = 0; cell < 108; cell++) {
            due("setObstacle(" + cell + ", 0)", x.setObstacle(cell, 0), 1);
            due("look(" + cell + ")", x.look(cell), 0);
        }
        due("count(2)", x.count(2), 0);
        due("flightTime(0, 107)", x.flightTime(0, 107), 12);
    }

    private static void windsOfLayers() {
        FormationPlanner x = start("Each layer has a wind: none (0), greater columns (1), lesser columns (2), greater rows (3) or lesser rows (4)");
        for (int layer = 0; layer < 3; layer++) {
            for (int wind = 1; wind <= 5; wind++) {
                due("setWind(" + layer + ", " + wind % 5 + ")", x.setWind(layer, wind % 5), wind - 1);
                // From corner to corner of the layer the way is 5 columns and 5 rows. Instead of 5 moves
                // against the wind, it leads over the next layer, with a tick there and a tick back.
                int low = 36 * layer, high = low + 35;
                boolean up = wind % 5 == 2 || wind % 5 == 4, down = wind == 1 || wind == 3;
                due("flightTime within " + layer, x.flightTime(low, high), up ? 12 : 10);
                due("flightTime back within " + layer, x.flightTime(high, low), down ? 12 : 10);
                int other = (layer + 1) % 3 * 36;
                due("flightTime in another layer", x.flightTime(other, other + 35), 10);
                due("flightTime back in another layer", x.flightTime(other + 35, other), 10);
            }
        }
    }

    private static void atFirst() {
        FormationPlanner x = start("At first there are no obstacles and no winds");
        due("count(2)", x.count(2), 0);
        for (int cell = 0; cell < 108; cell++) due("look(" + cell + ")", x.look(cell), 0);
        for (int layer = 0; layer < 3; layer++) {
            for (int action = 1; action <= 4; action++) {
                int cell = 36 * layer + 14;
                due("flightTime by " + action, x.flightTime(cell, cell + STEPS[action]), 1);
            }
            due("setWind(" + layer + ", 0)", x.setWind(layer, 0), 0);
        }
    }

    // ---- Actions

    private static void numbersOfActions() {
        for (int action = 1; action <= 6; action++) {
            FormationPlanner x = start("to wait (0); to move: greater column (1), lesser column (2), greater row (3), lesser row (4), greater layer (5), lesser layer (6)");
            drones(x, 50);
            slots(x, 50 + STEPS[action]);
            due("plan()", x.plan(), 1);
            acts(x, 0, action);
            flies(x, 0, 50, 50 + STEPS[action]);
        }
    }

    private static void ticksOfActions() {
        for (int wind = 0; wind <= 4; wind++) {
            FormationPlanner x = start("a move against the wind: 1 with wind 2, 2 with wind 1, 3 with wind 4, and 4 with wind 3, takes 2 ticks");
            x.setWind(1, wind);
            for (int action = 1; action <= 6; action++) {
                int ticks = action == AGAINST[wind] ? 2 : 1;
                due("flightTime by " + action + " with wind " + wind, x.flightTime(50, 50 + STEPS[action]), ticks);
            }
        }
    }

    private static void stillInItsCell() {
        for (int wind = 1; wind <= 4; wind++) {
            FormationPlanner x = start("after the first one, the drone is still in its cell");
            x.setWind(1, wind);
            int action = AGAINST[wind], to = 50 + STEPS[action];
            drones(x, 50);
            slots(x, to);
            due("plan()", x.plan(), 2);
            acts(x, 0, action, action);
            flies(x, 0, 50, 50, to);
        }
    }

    private static void notOutOfTheLattice() {
        int[] one = {5, 11, 29, 35, 71, 30, 31, 35, 66, 71, 41, 77, 0, 0, 0, 5};
        int[] other = {6, 12, 30, 36, 72, 36, 37, 41, 72, 77, 42, 78, 107, 72, 30, 0};
        for (int i = 0; i < one.length; i++) {
            FormationPlanner x = start("A move to an obstacle or out of the lattice is not possible: " + one[i] + " and " + other[i]);
            onlyFree(x, one[i], other[i]);
            due("flightTime", x.flightTime(one[i], other[i]), NONE);
            due("flightTime back", x.flightTime(other[i], one[i]), NONE);
        }
    }

    private static void notThroughObstacles() {
        for (int action = 1; action <= 6; action++) {
            FormationPlanner x = start("A move to an obstacle is not possible, with the action " + action);
            int next = 50 + STEPS[action];
            onlyFree(x, 50, next);
            due("flightTime", x.flightTime(50, next), 1);
            obstacles(x, next);
            due("flightTime to an obstacle", x.flightTime(50, next), NONE);
            drones(x, 50);
            slots(x, 50);
            due("plan()", x.plan(), 0);
        }
    }

    private static void leastNumberOfTicks() {
        FormationPlanner x = start("The flight time is the least number of ticks of actions that lead to it");
        x.setWind(0, 2);
        due("flightTime(0, 1), straight on", x.flightTime(0, 1), 2);
        due("flightTime(0, 2), straight on or over layer 1", x.flightTime(0, 2), 4);
        due("flightTime(0, 3), over layer 1", x.flightTime(0, 3), 5);
        obstacles(x, 36, 37, 38, 39, 40, 41);
        due("flightTime(0, 3), straight on", x.flightTime(0, 3), 6);
        due("flightTime(0, 5), in another row of layer 1", x.flightTime(0, 5), 9);
        due("flightTime(5, 0)", x.flightTime(5, 0), 5);
        due("flightTime(0, 0)", x.flightTime(0, 0), 0);
    }

    // ---- Drones and slots

    private static void sixDrones() {
        FormationPlanner x = start("There are at most 6 drones");
        for (int drone = 0; drone < 6; drone++) due("addDrone", x.addDrone(20 * drone), drone);
        due("addDrone, the 7th", x.addDrone(1), FULL);
        due("count(0)", x.count(0), 6);
        due("look(1)", x.look(1), 0);
        due("removeDrone(0)", x.removeDrone(0), 5);
        due("addDrone, the 6th again", x.addDrone(1), 5);
        due("addDrone, the 7th", x.addDrone(2), FULL);
    }

    private static void sixSlots() {
        FormationPlanner x = start("and at most 6 slots");
        for (int slot = 0; slot < 6; slot++) due("addSlot", x.addSlot(20 * slot), slot);
        due("addSlot, the 7th", x.addSlot(1), FULL);
        due("count(1)", x.count(1), 6);
        due("look(1)", x.look(1), 0);
        due("clearSlots()", x.clearSlots(), 6);
        for (int slot = 0; slot < 6; slot++) due("addSlot", x.addSlot(20 * slot + 1), slot);
        due("addSlot, the 7th", x.addSlot(0), FULL);
    }

    private static void noObstacleThere() {
        FormationPlanner x = start("each at a cell, which is no obstacle");
        obstacles(x, 0, 107);
        due("addDrone(0)", x.addDrone(0), TAKEN);
        due("addSlot(0)", x.addSlot(0), TAKEN);
        due("addDrone(107)", x.addDrone(107), TAKEN);
        due("addSlot(107)", x.addSlot(107), TAKEN);
        drones(x, 1);
        slots(x, 2);
        due("setObstacle(1, 1)", x.setObstacle(1, 1), TAKEN);
        due("setObstacle(2, 1)", x.setObstacle(2, 1), TAKEN);
        due("setObstacle(0, 0)", x.setObstacle(0, 0), 1);
        due("addDrone(0)", x.addDrone(0), 1);
        due("addSlot(0)", x.addSlot(0), 1);
    }

    private static void noTwoAtTheSameCell() {
        FormationPlanner x = start("no two drones and no two slots at the same cell");
        drones(x, 0, 1);
        slots(x, 2, 3);
        due("addDrone(0)", x.addDrone(0), TAKEN);
        due("addDrone(1)", x.addDrone(1), TAKEN);
        due("addSlot(2)", x.addSlot(2), TAKEN);
        due("addSlot(3)", x.addSlot(3), TAKEN);
        due("addDrone(2), a slot's", x.addDrone(2), 2);
        due("addSlot(0), a drone's", x.addSlot(0), 2);
        due("look(0)", x.look(0), 310);
        due("look(2)", x.look(2), 130);
        due("a4 a4", read(x, "a4 a4"), TAKEN);
        due("removeDrone(0)", x.removeDrone(0), 2);
        due("addDrone(0), left by the other one", x.addDrone(0), 2);
    }

    private static void laterNumbersDecrease() {
        for (int gone = 0; gone < 6; gone++) {
            FormationPlanner x = start("when one is removed, the numbers of the later ones decrease by 1: drone " + gone);
            drones(x, 10, 20, 30, 40, 50, 60);
            due("removeDrone(" + gone + ")", x.removeDrone(gone), 5);
            for (int drone = 0; drone < 5; drone++) {
                int cell = drone < gone ? 10 * drone + 10 : 10 * drone + 20;
                due("cellOf(0, " + drone + ")", x.cellOf(0, drone), cell);
                due("look(" + cell + ")", x.look(cell), 10 * drone + 10);
            }
            due("cellOf(0, 5)", x.cellOf(0, 5), NONE);
            due("look", x.look(10 * gone + 10), 0);
        }
    }

    // ---- Assignment

    private static void asManyDronesAsSlots() {
        FormationPlanner x = start("If there are as many drones as slots");
        for (int size = 0; size <= 6; size++) {
            due("assignment(0), " + size + " of both", x.assignment(0), 0);
            due("plan(), " + size + " of both", x.plan(), 0);
            if (size == 6) break;
            drones(x, 10 * size);
            due("assignment(0), one drone more", x.assignment(0), MISMATCH);
            due("plan(), one drone more", x.plan(), MISMATCH);
            slots(x, 10 * size);
        }
        due("removeDrone(5)", x.removeDrone(5), 5);
        due("assignment(0), one slot more", x.assignment(0), MISMATCH);
        due("assigned(0), one slot more", x.assigned(0), MISMATCH);
        due("plan(), one slot more", x.plan(), MISMATCH);
        due("greatestWith(0, 0), one slot more", x.greatestWith(0, 0), MISMATCH);
    }

    private static void toWhichItCanFly() {
        FormationPlanner x = start("a slot of its own to which it can fly");
        obstacles(x, 1, 6, 36);
        drones(x, 10, 0);
        slots(x, 0, 11);
        // The cell 0 is shut in, so that the drone there has only the slot there.
        assignedAre(x, 1, 0);
        assignments(x, 1, 1, 1, 1);
        drones(x, 20);
        slots(x, 22);
        assignments(x, 2, 3, 1, 2);
        due("removeDrone(1)", x.removeDrone(1), 2);
        drones(x, 26);
        due("assigned(0), none reaches 0", x.assigned(0), NO_ASSIGNMENT);
        due("assignment(3)", x.assignment(3), NO_ASSIGNMENT);
        due("plan()", x.plan(), NO_ASSIGNMENT);
    }

    private static void leastGreatestTime() {
        FormationPlanner x = start("The best assignment is the one with the least greatest time");
        // 3 and 3 rather than 0 and 4.
        drones(x, 0, 3);
        slots(x, 0, 13);
        assignedAre(x, 1, 0);
        assignments(x, 3, 6, 1, 2);
    }

    private static void leastSum() {
        FormationPlanner x = start("of several the one with the least sum");
        // 1, 1 and 2 rather than 2, 2 and 2.
        drones(x, 0, 3, 72);
        slots(x, 2, 1, 74);
        assignedAre(x, 1, 0, 2);
        assignments(x, 2, 4, 2, 6);
    }

    private static void lexicographicallyLeast() {
        FormationPlanner x = start("of these, the one whose sequence of slots is lexicographically least");
        drones(x, 0, 7);
        slots(x, 1, 6);
        assignedAre(x, 0, 1);
        assignments(x, 1, 2, 2, 2);
        due("clearSlots()", x.clearSlots(), 2);
        slots(x, 6, 1);
        assignedAre(x, 0, 1);
        due("plan()", x.plan(), 1);
        due("flight(0, 4)", x.flight(0, 4), 0);
        due("at(0, 1)", x.at(0, 1), 6);
    }

    private static void emptyAssignment() {
        FormationPlanner x = start("If there are no drones and no slots, there is one assignment, the empty one, with the greatest time 0 and the sum 0, and a plan with the end 0");
        assignments(x, 0, 0, 1, 1);
        due("greatestWith(2, 4)", x.greatestWith(2, 4), 0);
        due("plan()", x.plan(), 0);
        due("count(7)", x.count(7), 1);
        due("stuck()", x.stuck(), NONE);
        due("conflictsWithout()", x.conflictsWithout(), 0);
        due("at(0, 0)", x.at(0, 0), NONE);
        due("fly(60)", x.fly(60), 0);
        due("count(4)", x.count(4), 60);
        due("count(7)", x.count(7), 1);
        due("undo()", x.undo(), 0);
        due("count(4)", x.count(4), 0);
    }

    // ---- Plans

    private static void orderOfPlanning() {
        FormationPlanner x = start("in descending order of their flight times, of several in ascending order");
        drones(x, 0, 12, 24, 72, 84, 96);
        slots(x, 1, 14, 25, 74, 84, 99);
        due("plan()", x.plan(), 3);
        int[] times = {1, 2, 1, 2, 0, 3}, positions = {3, 1, 4, 2, 5, 0};
        for (int drone = 0; drone < 6; drone++) numbers(x, drone, times[drone], 0, times[drone], positions[drone], drone);
    }

    /** A drone of a corridor with a bay is passed by a longer flight from behind; a third one is far away. */
    private static void atItsSlotAtTimeZero() {
        FormationPlanner x = start("before, it may be at its slot, also at time 0, and leave it again");
        onlyFree(x, 0, 1, 2, 3, 7, 72, 73, 74, 75);
        drones(x, 0, 1, 72);
        slots(x, 2, 1, 75);
        due("plan()", x.plan(), 3);
        flies(x, 0, 0, 1, 2);
        flies(x, 1, 1, 7, 1);
        numbers(x, 1, 2, 0, 0, 2, 1);
        due("fly(1)", x.fly(1), 0);
        due("fly(1)", x.fly(1), 2);
    }

    private static void atItsSlotBefore() {
        FormationPlanner x = start("before, it may be at its slot and leave it again");
        onlyFree(x, 0, 1, 2, 3, 4, 9, 72, 73, 74, 75, 76);
        drones(x, 0, 1, 72);
        slots(x, 4, 2, 76);
        assignedAre(x, 0, 1, 2);
        due("plan()", x.plan(), 5);
        flies(x, 0, 0, 1, 2, 3, 4);
        flies(x, 1, 1, 2, 3, 9, 3, 2);
        numbers(x, 1, 5, 0, 1, 2, 1);
        // At its slot, but not yet arrived.
        due("fly(1)", x.fly(1), 0);
        due("count(3)", x.count(3), 1);
        due("flight(1, 0)", x.flight(1, 0), 4);
    }

    /** The second drone arrives in 2 at 1; the third one, which it drove away, may not come back over 2. */
    private static FormationPlanner around(String part) {
        return narrow(part, 0, row(1, 2, 3, 7, 8, 9, 15), row(7, 1, 2), row(15, 2, 8));
    }

    private static void staysFromItsArrivalOn() {
        FormationPlanner x = around("until it arrives at its slot, where it stays from its arrival on");
        due("plan()", x.plan(), 4);
        flies(x, 0, 7, 8, 9, 15);
        flies(x, 1, 1, 2);
        flies(x, 2, 2, 3, 3, 9, 8);
        due("at(1, 60)", x.at(1, 60), 2);
    }

    /** Two drones cross, each on its only way. */
    private static FormationPlanner crossing(String part) {
        FormationPlanner x = start(part);
        obstacles(x, 6, 8);
        drones(x, 0, 2);
        slots(x, 14, 12);
        return x;
    }

    private static void notInTheSameCell() {
        FormationPlanner x = crossing("at no time from 0 to 60 are both in the same cell");
        due("plan()", x.plan(), 5);
        // Without the wait they would be in 1 at 1, in 7 at 2 and in 13 at 3.
        flies(x, 0, 0, 1, 7, 13, 14);
        flies(x, 1, 2, 2, 1, 7, 13, 12);
        for (int time = 0; time <= 60; time++) due("both at " + time, x.at(0, time) == x.at(1, time) ? 1 : 0, 0);
    }

    /** A drone in a corridor is driven on by a longer flight from behind; a third one is far away. */
    private static FormationPlanner corridor(String part) {
        FormationPlanner x = start(part);
        onlyFree(x, 0, 1, 2, 3, 72, 73, 74, 75);
        drones(x, 0, 1, 72);
        slots(x, 3, 2, 75);
        return x;
    }

    private static void notExchanging() {
        FormationPlanner x = corridor("there is no time after which both are in the cells in which the other one was");
        // By exchanging cells with the first drone the second one would be at its slot at 3.
        due("plan()", x.plan(), NO_PLAN);
        due("stuck()", x.stuck(), 1);
    }

    /** A way of 62 ticks from 37 over 1 to 72, with 79 (58), 78 (60) and 72 (61) at its end. */
    private static FormationPlanner longWay(String part, int... drones) {
        FormationPlanner x = start(part);
        onlyFree(x, 0, 1, 2, 3, 4, 5, 11, 17, 16, 15, 14, 13, 12, 18, 24, 25, 26, 27, 28, 29, 35, 71, 37,
            107, 106, 105, 104, 103, 102, 96, 90, 91, 92, 93, 94, 95, 89, 83, 82, 81, 80, 79, 78, 72);
        x.setWind(0, 2);
        x.setWind(2, 1);
        drones(x, drones);
        return x;
    }

    private static void at60AtTheLatest() {
        FormationPlanner x = longWay("It must arrive at 60 at the latest", 37);
        slots(x, 79);
        due("plan()", x.plan(), 58);
        due("clearSlots()", x.clearSlots(), 1);
        slots(x, 78);
        due("flightTime(37, 78)", x.flightTime(37, 78), 60);
        due("plan()", x.plan(), 60);
        due("at(0, 59)", x.at(0, 59), 79);
        due("at(0, 60)", x.at(0, 60), 78);
        due("action(0, 59)", x.action(0, 59), 2);
        due("clearSlots()", x.clearSlots(), 1);
        slots(x, 72);
        due("flightTime(37, 72)", x.flightTime(37, 72), 61);
        assignments(x, 61, 61, 1, 1);
        due("assigned(0)", x.assigned(0), 0);
        due("plan()", x.plan(), NO_PLAN);
        due("stuck()", x.stuck(), 0);
        due("count(7)", x.count(7), 0);
        // From the next cell it is a tick less.
        due("removeDrone(0)", x.removeDrone(0), 0);
        drones(x, 1);
        due("plan()", x.plan(), 60);
        due("fly(60)", x.fly(60), 1);
        due("cellOf(0, 0)", x.cellOf(0, 0), 72);
    }

    private static void at60AfterAWait() {
        FormationPlanner x = longWay("It must arrive at 60 at the latest, and does so after a wait", 0, 37);
        slots(x, 79, 78);
        assignments(x, 60, 119, 1, 2);
        due("plan()", x.plan(), 60);
        numbers(x, 1, 60, 0, 60, 0, 1);
        numbers(x, 0, 60, 1, 59, 1, 0);
        due("action(0, 0)", x.action(0, 0), 0);
        due("at(0, 2)", x.at(0, 2), 0);
        due("at(0, 3)", x.at(0, 3), 1);
        due("at(0, 59)", x.at(0, 59), 80);
        due("at(0, 60)", x.at(0, 60), 79);
    }

    private static void notAt61AfterAWait() {
        FormationPlanner x = longWay("It must arrive at 60 at the latest, and cannot after a wait", 1, 37);
        slots(x, 72, 78);
        // The first drone is in 1 for 2 ticks, so that the second one, with 60 as well, would come a tick late.
        assignments(x, 60, 120, 1, 2);
        due("plan()", x.plan(), NO_PLAN);
        due("stuck()", x.stuck(), 1);
    }

    private static void notYetPlanned() {
        FormationPlanner x = start("Drones that are not yet planned are left out of account");
        // The first drone flies through the cell of the second one, which is at its slot and has to go.
        drones(x, 0, 1, 72);
        slots(x, 2, 1, 75);
        due("plan()", x.plan(), 3);
        flies(x, 0, 0, 1, 2);
        flies(x, 1, 1, 7, 1);
    }

    private static void earliestArrival() {
        FormationPlanner x = start("Of all these flights, the one with the earliest arrival is chosen");
        x.setWind(0, 2);
        drones(x, 0);
        slots(x, 3);
        // Straight on, which is lexicographically less, it would arrive at 6.
        due("plan()", x.plan(), 5);
        acts(x, 0, 5, 1, 1, 1, 6);
        flies(x, 0, 0, 36, 37, 38, 39, 3);
    }

    private static void leastActions() {
        FormationPlanner x = start("and of several, the one whose sequence of actions is lexicographically least");
        drones(x, 0);
        slots(x, 43);
        due("plan()", x.plan(), 3);
        acts(x, 0, 1, 3, 5);
        // Moves to lesser cells: the lesser column comes first, the lesser layer last.
        due("removeDrone(0)", x.removeDrone(0), 0);
        drones(x, 43);
        due("clearSlots()", x.clearSlots(), 1);
        slots(x, 0);
        due("plan()", x.plan(), 3);
        acts(x, 0, 2, 4, 6);
        // An action of two ticks is one action: 1, 5 is less than 5, 1 with the wind as well.
        x = start("and of several, the one whose sequence of actions is lexicographically least, with two ticks");
        x.setWind(0, 2);
        x.setWind(1, 2);
        drones(x, 0);
        slots(x, 37);
        due("plan()", x.plan(), 3);
        acts(x, 0, 1, 1, 5);
        // A wait is the least action: it comes as early as it can.
        x = crossing("and of several, the one whose sequence of actions is lexicographically least, with a wait");
        due("plan()", x.plan(), 5);
        acts(x, 1, 0, 2, 3, 3, 2);
    }

    private static void stuckDrone() {
        FormationPlanner x = corridor("If there is none for a drone, there is no plan; the drone is stuck");
        due("plan()", x.plan(), NO_PLAN);
        due("stuck()", x.stuck(), 1);
        due("count(7)", x.count(7), 0);
        for (int drone = 0; drone < 3; drone++) due("at(" + drone + ", 0)", x.at(drone, 0), NO_PLAN);
        due("fly(1)", x.fly(1), NO_PLAN);
        cells(x, 0, 0, 1, 72);
        assignedAre(x, 0, 1, 2);
    }

    private static void endOfThePlan() {
        FormationPlanner x = crossing("The end of the plan is the latest arrival");
        due("plan()", x.plan(), 5);
        due("flight(0, 0)", x.flight(0, 0), 4);
        due("flight(1, 0)", x.flight(1, 0), 5);
        x = start("The end of the plan is the latest arrival, with all at their slots");
        drones(x, 0, 107);
        slots(x, 0, 107);
        due("plan()", x.plan(), 0);
    }

    // ---- Flying

    private static void theRestRemains() {
        int[] first = {0, 1, 7, 13, 14}, second = {2, 2, 1, 7, 13, 12};
        for (int ticks = 1; ticks <= 6; ticks++) {
            FormationPlanner x = crossing("the drones are then at their cells at that time, and the rest of the plan remains: " + ticks);
            due("plan()", x.plan(), 5);
            due("fly(" + ticks + ")", x.fly(ticks), ticks < 4 ? 0 : ticks == 4 ? 1 : 2);
            cells(x, 0, first[Math.min(ticks, 4)], second[Math.min(ticks, 5)]);
            for (int time = 0; time <= 60; time++) {
                due("at(0, " + time + ")", x.at(0, time), first[Math.min(ticks + time, 4)]);
                due("at(1, " + time + ")", x.at(1, time), second[Math.min(ticks + time, 5)]);
            }
            due("flight(0, 0)", x.flight(0, 0), Math.max(0, 4 - ticks));
            due("flight(1, 0)", x.flight(1, 0), Math.max(0, 5 - ticks));
        }
    }

    private static void theWholeMoveAgain() {
        FormationPlanner x = start("A drone that has finished only the first tick of a move against the wind is in its old cell; a new plan, and flight times, begin with the whole move again");
        x.setWind(0, 2);
        drones(x, 0);
        slots(x, 1);
        due("plan()", x.plan(), 2);
        due("fly(1)", x.fly(1), 0);
        cells(x, 0, 0);
        due("action(0, 0), it goes on with the move", x.action(0, 0), 1);
        due("flight(0, 0), the rest of the plan", x.flight(0, 0), 1);
        due("flight(0, 2)", x.flight(0, 2), 2);
        due("flightTime(0, 1)", x.flightTime(0, 1), 2);
        due("assignment(0)", x.assignment(0), 2);
        due("plan(), a new one", x.plan(), 2);
        acts(x, 0, 1, 1);
        due("fly(1)", x.fly(1), 0);
        due("fly(1), the rest", x.fly(1), 1);
        cells(x, 0, 1);
    }

    private static void discarding() {
        int[] answers = {0, 0, 1, 0, 1, 1, 1, 1};
        for (int call = 0; call < answers.length; call++) {
            FormationPlanner x = planned("Each call of setWind, setObstacle, addDrone, removeDrone, addSlot, clearSlots, readSlots or undo without an error code discards the plan: " + call);
            x.append('b', 1);
            x.append('2', 1);
            stands(x, true);
            due("the call", change(x, call), answers[call]);
            due("count(7)", x.count(7), 0);
            due("fly(1)", x.fly(1), NO_PLAN);
            due("conflictsWithout()", x.conflictsWithout(), NO_PLAN);
        }
    }

    private static int change(FormationPlanner x, int call) {
        switch (call) {
            case 0: return x.setWind(2, 1);
            case 1: return x.setObstacle(50, 1);
            case 2: return x.addDrone(50);
            case 3: return x.removeDrone(0);
            case 4: return x.addSlot(50);
            case 5: return x.clearSlots();
            case 6: return x.readSlots();
            default: return x.undo();
        }
    }

    private static void discardingWithoutADifference() {
        String part = "discards the plan, also if nothing is different afterwards: ";
        FormationPlanner x = planned(part + "setWind");
        due("setWind(1, 0)", x.setWind(1, 0), 0);
        stands(x, false);
        x = planned(part + "setObstacle, still none");
        due("setObstacle(50, 0)", x.setObstacle(50, 0), 0);
        stands(x, false);
        x = planned(part + "setObstacle, still one");
        obstacles(x, 50);
        due("plan()", x.plan(), 3);
        due("setObstacle(50, 1)", x.setObstacle(50, 1), 1);
        stands(x, false);
        x = planned(part + "readSlots");
        due("d1", read(x, "d1"), 1);
        cells(x, 1, 3);
        stands(x, false);
        x = planned(part + "removeDrone");
        due("removeDrone(1)", x.removeDrone(1), NONE);
        stands(x, false);
        x = start(part + "clearSlots");
        due("plan()", x.plan(), 0);
        due("clearSlots()", x.clearSlots(), 0);
        due("count(7)", x.count(7), 0);
        x = start(part + "undo of a call that made no difference");
        due("clearSlots()", x.clearSlots(), 0);
        due("plan()", x.plan(), 0);
        due("undo()", x.undo(), 0);
        due("count(7)", x.count(7), 0);
        x = start(part + "undo of nothing");
        due("plan()", x.plan(), 0);
        due("undo()", x.undo(), NONE);
        due("count(7)", x.count(7), 0);
    }

    private static void notDiscarding() {
        FormationPlanner x = planned("only those calls discard the plan");
        due("append(97, 1)", x.append(97, 1), 1);
        due("readSlots(), refused", x.readSlots(), -101);
        due("setWind(3, 0)", x.setWind(3, 0), BAD);
        due("setObstacle(0, 1)", x.setObstacle(0, 1), TAKEN);
        due("addDrone(0)", x.addDrone(0), TAKEN);
        due("addSlot(3)", x.addSlot(3), TAKEN);
        due("fly(61)", x.fly(61), BAD);
        due("greatestWith(0, 2)", x.greatestWith(0, 2), 5);
        due("flightTime(7, 20)", x.flightTime(7, 20), 3);
        due("assigned(0)", x.assigned(0), 0);
        due("assignment(1)", x.assignment(1), 3);
        due("explain(0, 0)", x.explain(0, 0), NONE);
        due("conflictsWithout()", x.conflictsWithout(), 0);
        due("look(0)", x.look(0), 10);
        due("cellOf(0, 1)", x.cellOf(0, 1), NONE);
        due("stuck()", x.stuck(), NONE);
        stands(x, true);
        flies(x, 0, 0, 1, 2, 3);
    }

    private static void beyondTheEnd() {
        FormationPlanner x = planned("flying does not, also beyond the end of the plan");
        due("fly(2)", x.fly(2), 0);
        stands(x, true);
        due("fly(1), to the end", x.fly(1), 1);
        stands(x, true);
        due("fly(1), beyond the end", x.fly(1), 1);
        stands(x, true);
        due("fly(60), far beyond", x.fly(60), 1);
        due("fly(60), farther still", x.fly(60), 1);
        stands(x, true);
        flies(x, 0, 3);
        acts(x, 0);
        numbers(x, 0, 0, 0, 0, 0, 0);
        due("count(4)", x.count(4), 124);
    }

    // ---- Explanations

    private static void beforeItsArrival() {
        FormationPlanner x = crossing("At a time before its arrival");
        due("plan()", x.plan(), 5);
        explained(x, 1, 0, 0);
        due("fly(4), a tick before its arrival", x.fly(4), 1);
        due("explain(1, 0)", x.explain(1, 0), NONE);
        due("fly(1)", x.fly(1), 2);
        due("explain(1, 0), from its arrival on", x.explain(1, 0), NONE);
        due("action(1, 0)", x.action(1, 0), 0);
    }

    private static void beginsToWait() {
        // A move against the wind, which is gone on with at 2, is no wait, though the cell is the same.
        FormationPlanner x = narrow("at which a drone of the plan begins to wait", 2, row(3, 4, 8, 9, 15), row(4, 8), row(15, 9));
        due("plan()", x.plan(), 3);
        flies(x, 1, 8, 8, 8, 9);
        acts(x, 1, 0, 1, 1);
        explained(x, 1, 0, 0);
        // A wait is one tick long, so that it begins at each of several.
        x = narrow("at which a drone of the plan begins to wait, twice", 4, row(3, 8, 9, 10, 15), row(8, 10), row(15, 9));
        due("plan()", x.plan(), 3);
        flies(x, 0, 8, 9, 9, 15);
        flies(x, 1, 10, 10, 10, 9);
        explained(x, 1, 0, 0, 1, 1, 0);
    }

    /** The fourth drone, planned first, is in 8 when the third would come there, and the first goes from 8 to 7. */
    private static FormationPlanner twoInTheWay(String part) {
        return narrow(part, 2, row(0, 1, 3, 4, 7, 8, 9, 10, 14), row(9, 0, 7, 3), row(10, 0, 8, 14));
    }

    private static void lowestNumber() {
        FormationPlanner x = twoInTheWay("The conflict is with the drone with the lowest number");
        due("plan()", x.plan(), 8);
        flies(x, 0, 9, 8, 7, 7, 8, 8, 9, 9, 10);
        flies(x, 2, 7, 7, 1, 1, 7, 7, 8);
        flies(x, 3, 3, 9, 8, 14);
        due("flight(3, 3)", x.flight(3, 3), 0);
        due("flight(0, 3)", x.flight(0, 3), 1);
        due("explain(2, 0)", x.explain(2, 0), 0);
    }

    private static void plannedBefore() {
        FormationPlanner x = narrow("of those that were planned before", 3, row(1, 6, 7, 8, 9, 14, 42), row(14, 6, 42, 7), row(9, 8, 42, 1));
        due("plan()", x.plan(), 3);
        flies(x, 1, 6, 6, 7, 8);
        flies(x, 3, 7, 7, 1);
        due("flight(1, 3)", x.flight(1, 3) < x.flight(3, 3) ? 1 : 0, 1);
        // The last drone is in the way of the second one, but was planned later.
        due("action(1, 0)", x.action(1, 0), 0);
        due("explain(1, 0)", x.explain(1, 0), NONE);
    }

    private static void behindTheirArrival() {
        FormationPlanner x = around("and, behind their arrival, stay at their slots");
        due("plan()", x.plan(), 4);
        due("flight(1, 0)", x.flight(1, 0), 1);
        // The way from 3 to 8 leads over 2, where the second drone has arrived.
        explained(x, 2, 1, 1);
        due("fly(1)", x.fly(1), 1);
        due("explain(2, 0)", x.explain(2, 0), 1);
    }

    private static void byExchanging() {
        FormationPlanner x = twoInTheWay("in the same cell after any tick of this action, or by exchanging cells with its last tick");
        due("plan()", x.plan(), 8);
        // At 0 the first drone would be met by exchanging 8 and 7 in the second tick, and at 2 in 7.
        explained(x, 2, 0, 0, 2, 2, 0);
    }

    private static void leastWayWithoutOthers() {
        // From 2 the way without others begins with 2, to 1, where the first drone is at 1; the other way with 3.
        FormationPlanner x = crossing("the way of least flight time from its cell to its slot whose sequence of actions is lexicographically least");
        due("plan()", x.plan(), 5);
        due("explain(1, 0)", x.explain(1, 0), 0);
        due("conflictsWithout()", x.conflictsWithout(), 1);
        // Where nobody is met by its first action, a wait has no explanation.
        x = narrow("its first action on the way without others", 4, row(2, 7, 8, 9, 15), row(7, 2), row(9, 15));
        due("plan()", x.plan(), 4);
        acts(x, 1, 0, 3, 3, 1);
        explained(x);
    }

    // ---- Text

    private static void sixtyCharacters() {
        FormationPlanner x = start("A text of at most 60 characters is a formation");
        due("append(97, 60)", x.append(97, 60), 60);
        due("append(97, 1)", x.append(97, 1), FULL);
        due("readSlots()", x.readSlots(), -101);
        due("59 and 1", x.append(97, 59), 59);
        due("59 and 1", x.append(97, 1), 60);
        due("readSlots()", x.readSlots(), -101);
        // 20 positions with a space between them are 59 characters, with a layer more 60.
        due("59 characters", read(x, "a1 ".repeat(19) + "a1"), FULL);
        due("60 characters", read(x, "a1 ".repeat(19) + "a1+"), FULL);
        // A fault at the last offset, and an end too early behind it.
        due("a fault at 59", read(x, "a1 ".repeat(19) + "a1x"), -159);
        due("an end at 60", read(x, "a1 ".repeat(19) + "a1 "), -160);
        due("count(1)", x.count(1), 0);
    }

    private static void letters() {
        FormationPlanner x = start("a letter from a to f for the column");
        for (int column = 0; column < 6; column++) {
            due("letter " + column, read(x, (char) ('a' + column) + "1"), 1);
            cells(x, 1, column);
        }
        for (char wrong : new char[] {'`', 'g', 'A', 'F', '1', '+', ' ', 0, 127}) due("letter " + (int) wrong, read(x, wrong + "1"), -100);
        cells(x, 1, 5);
    }

    private static void digits() {
        FormationPlanner x = start("a digit from 1 to 6 for the row, counted from 1");
        for (int row = 1; row <= 6; row++) {
            due("digit " + row, read(x, "a" + row), 1);
            cells(x, 1, 6 * row - 6);
        }
        for (char wrong : new char[] {'0', '7', '9', 'a', '+', ' ', 0, 127}) due("digit " + (int) wrong, read(x, "a" + wrong), -101);
        cells(x, 1, 30);
    }

    private static void layers() {
        FormationPlanner x = start("and possibly \"+\" or \"++\" for the layer 1 or 2");
        due("f6", read(x, "f6"), 1);
        cells(x, 1, 35);
        due("f6+", read(x, "f6+"), 1);
        cells(x, 1, 71);
        due("f6++", read(x, "f6++"), 1);
        cells(x, 1, 107);
        due("f6+++", read(x, "f6+++"), -104);
        due("f6 +", read(x, "f6 +"), -103);
        due("f6+ +", read(x, "f6+ +"), -104);
        due("+f6", read(x, "+f6"), -100);
        due("f+6", read(x, "f+6"), -101);
        cells(x, 1, 107);
    }

    private static void spaces() {
        FormationPlanner x = start("position { \" \" position }");
        due("one", read(x, "a1"), 1);
        due("two", read(x, "a1 a2"), 2);
        due("six", read(x, "a1 a2 a3 a4 a5 a6"), 6);
        cells(x, 1, 0, 6, 12, 18, 24, 30);
        due("none between", read(x, "a1a2"), -102);
        due("two between", read(x, "a1  a2"), -103);
        due("one before", read(x, " a1"), -100);
        due("another sign", read(x, "a1,a2"), -102);
        due("none behind a layer", read(x, "a1++a2"), -104);
        cells(x, 1, 0, 6, 12, 18, 24, 30);
    }

    private static void tooEarly() {
        FormationPlanner x = start("or the length of the text if it ends too early");
        due("empty", x.readSlots(), -100);
        due("a", read(x, "a"), -101);
        due("a1 and a space", read(x, "a1 "), -103);
        due("a1 b", read(x, "a1 b"), -104);
        due("a1++ and a space", read(x, "a1++ "), -105);
        due("count(1)", x.count(1), 0);
        due("count(6)", x.count(6), 0);
    }
}
