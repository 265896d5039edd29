import java.util.function.Supplier;

/** For each sentence of the promises that names a boundary or a refusal, a test of its own. */
public final class BoundsTest extends Calls {
    private static final Supplier<FormationPlanner> NEW = FormationPlanner::new;

    public static void main(String[] args) {
        newObject();
        setWind();
        setObstacle();
        addDrone();
        removeDrone();
        addSlot();
        clearSlots();
        append();
        readSlots();
        flightTime();
        assigned();
        assignment();
        plan();
        stuck();
        at();
        action();
        flight();
        explain();
        conflictsWithout();
        fly();
        greatestWith();
        cellOf();
        look();
        count();
        undo();
        checks.end();
    }

    // ---- helpers

    private static void sentence(String sentence) { checks.part(sentence); }

    /** Each argument from the least to the greatest is taken; those around them and far off are refused. */
    private static void range(String sentence, Supplier<FormationPlanner> made, Asked asked, int least, int greatest, int refusal) {
        sentence(sentence);
        for (int argument = least; argument <= greatest; argument++) {
            due("taken " + argument, asked.answer(made.get(), argument) == refusal ? refusal : 0, 0);
        }
        for (int argument : new int[] {least - 1, greatest + 1, least - 1000, greatest + 1000, Integer.MIN_VALUE, Integer.MAX_VALUE}) {
            refused("refused " + argument, made, x -> asked.answer(x, argument), refusal);
        }
    }

    private static void bad(String sentence, Supplier<FormationPlanner> made, Asked asked, int least, int greatest) {
        range(sentence, made, asked, least, greatest, BAD);
    }

    /** For the two drones of a planner. */
    private static void noSuchDrone(String sentence, Supplier<FormationPlanner> made, Asked asked) {
        range(sentence, made, asked, 0, 1, NONE);
    }

    /** Two drones whose ways cross, with some text and the plan; the second one waits at 0. */
    private static FormationPlanner crossing() {
        FormationPlanner x = unplanned();
        x.plan();
        return x;
    }

    private static FormationPlanner unplanned() {
        FormationPlanner x = new FormationPlanner();
        x.setObstacle(6, 1);
        x.setObstacle(8, 1);
        x.addDrone(0);
        x.addDrone(2);
        x.addSlot(14);
        x.addSlot(12);
        x.append('c', 1);
        return x;
    }

    /** The text is a formation. */
    private static FormationPlanner readable() {
        FormationPlanner x = crossing();
        x.append('1', 1);
        return x;
    }

    private static FormationPlanner sixOfBoth() {
        FormationPlanner x = new FormationPlanner();
        x.setObstacle(50, 1);
        for (int number = 0; number < 6; number++) {
            x.addDrone(number);
            x.addSlot(number + 6);
        }
        x.plan();
        return x;
    }

    private static FormationPlanner oneDroneMore() {
        FormationPlanner x = unplanned();
        x.addDrone(20);
        return x;
    }

    private static FormationPlanner oneSlotMore() {
        FormationPlanner x = unplanned();
        x.addSlot(20);
        return x;
    }

    /** The second drone is shut in. */
    private static FormationPlanner unassigned() {
        FormationPlanner x = unplanned();
        x.setObstacle(1, 1);
        x.setObstacle(3, 1);
        x.setObstacle(38, 1);
        return x;
    }

    private static FormationPlanner unassignedAndMismatched() {
        FormationPlanner x = unassigned();
        x.addDrone(20);
        return x;
    }

    /** The second drone is driven on by the first one and cannot come back. */
    private static FormationPlanner stuckOne() {
        FormationPlanner x = new FormationPlanner();
        for (int cell : new int[] {4, 6, 7, 8, 9, 36, 37, 38, 39}) x.setObstacle(cell, 1);
        for (int cell : new int[] {0, 1, 72}) x.addDrone(cell);
        for (int cell : new int[] {3, 2, 75}) x.addSlot(cell);
        return x;
    }

    /** Three drones of which each has only the way over 7, 13 and 19 to each of the slots. */
    private static FormationPlanner star(String part) {
        return narrow(part, 0, row(1, 6, 8, 7, 13, 19, 18, 20, 25), row(1, 6, 8), row(18, 20, 25));
    }

    /** Straight on it is 3, or 5 with the wind 2 in layer 0. */
    private static FormationPlanner single() {
        FormationPlanner x = new FormationPlanner();
        x.addDrone(0);
        x.addSlot(3);
        x.plan();
        return x;
    }

    private static FormationPlanner withText(String text) {
        FormationPlanner x = crossing();
        x.readSlots();
        for (char sign : text.toCharArray()) x.append(sign, 1);
        return x;
    }

    // ---- promise 1

    private static void newObject() {
        FormationPlanner x = start("promise 1: Creates a planner without drones, slots and obstacles");
        for (int what = 0; what < 8; what++) due("count(" + what + ")", x.count(what), 0);
        for (int cell = 0; cell < 108; cell++) due("look(" + cell + ")", x.look(cell), 0);
        cells(x, 0);
        cells(x, 1);
        sentence("promise 1: with nothing of another object");
        crossing();
        dueText("seen", seen(new FormationPlanner()), seen(x));
    }

    // ---- promise 2

    private static void setWind() {
        bad("promise 2: the layer, 0 to 2", BoundsTest::crossing, (x, layer) -> x.setWind(layer, 1), 0, 2);
        bad("promise 2: the wind, 0 to 4", BoundsTest::crossing, (x, wind) -> x.setWind(2, wind), 0, 4);
        sentence("promise 2: BAD_ARGUMENT if an argument is out of range, also both");
        refused("setWind(3, 5)", BoundsTest::crossing, x -> x.setWind(3, 5), BAD);
        refused("setWind(-1, -1)", BoundsTest::crossing, x -> x.setWind(-1, -1), BAD);
        FormationPlanner x = start("promise 2: Returns the previous wind, of each layer its own");
        for (int layer = 0; layer < 3; layer++) due("setWind(" + layer + ")", x.setWind(layer, layer + 2), 0);
        for (int layer = 0; layer < 3; layer++) due("setWind(" + layer + ")", x.setWind(layer, 1), layer + 2);
        for (int layer = 0; layer < 3; layer++) due("setWind(" + layer + ")", x.setWind(layer, 1), 1);
    }

    // ---- promise 3

    private static void setObstacle() {
        bad("promise 3: the cell, 0 to 107", NEW, (x, cell) -> x.setObstacle(cell, 1), 0, 107);
        bad("promise 3: the cell, 0 to 107, to be none", NEW, (x, cell) -> x.setObstacle(cell, 0), 0, 107);
        bad("promise 3: on, 1 or 0", BoundsTest::crossing, (x, on) -> x.setObstacle(50, on), 0, 1);
        FormationPlanner x = start("promise 3: Returns 1 if it was an obstacle, otherwise 0");
        for (int cell : new int[] {0, 35, 36, 107}) {
            due("none to none", x.setObstacle(cell, 0), 0);
            due("none to one", x.setObstacle(cell, 1), 0);
            due("one to one", x.setObstacle(cell, 1), 1);
            due("one to none", x.setObstacle(cell, 0), 1);
            due("none to none again", x.setObstacle(cell, 0), 0);
        }
        sentence("promise 3: TAKEN if it is to become an obstacle, and a drone or slot is there");
        refused("a drone", BoundsTest::crossing, y -> y.setObstacle(0, 1), TAKEN);
        refused("a slot", BoundsTest::crossing, y -> y.setObstacle(12, 1), TAKEN);
        refused("the 6th drone", BoundsTest::sixOfBoth, y -> y.setObstacle(5, 1), TAKEN);
        refused("the 6th slot", BoundsTest::sixOfBoth, y -> y.setObstacle(11, 1), TAKEN);
        sentence("promise 3: if it is to become an obstacle, not if it is to be none");
        due("a drone", crossing().setObstacle(0, 0), 0);
        due("a slot", crossing().setObstacle(12, 0), 0);
        sentence("promise 3: several errors, BAD_ARGUMENT before TAKEN");
        refused("setObstacle(0, 2)", BoundsTest::crossing, y -> y.setObstacle(0, 2), BAD);
        refused("setObstacle(0, -1)", BoundsTest::crossing, y -> y.setObstacle(0, -1), BAD);
        refused("setObstacle(108, 2)", BoundsTest::crossing, y -> y.setObstacle(108, 2), BAD);
    }

    // ---- promise 4

    private static void addDrone() {
        bad("promise 4: its cell, 0 to 107", NEW, (x, cell) -> x.addDrone(cell), 0, 107);
        FormationPlanner x = start("promise 4: Returns its number");
        for (int number = 0; number < 6; number++) due("addDrone", x.addDrone(107 - number), number);
        sentence("promise 4: FULL if there are 6 drones");
        refused("addDrone(20)", BoundsTest::sixOfBoth, y -> y.addDrone(20), FULL);
        sentence("promise 4: TAKEN if the cell is an obstacle");
        refused("addDrone(6)", BoundsTest::crossing, y -> y.addDrone(6), TAKEN);
        sentence("promise 4: TAKEN if another drone is there");
        refused("addDrone(0)", BoundsTest::crossing, y -> y.addDrone(0), TAKEN);
        refused("addDrone(2)", BoundsTest::crossing, y -> y.addDrone(2), TAKEN);
        sentence("promise 4: another drone, not a slot");
        due("addDrone(14)", crossing().addDrone(14), 2);
        sentence("promise 4: several errors, BAD_ARGUMENT before FULL");
        refused("addDrone(108)", BoundsTest::sixOfBoth, y -> y.addDrone(108), BAD);
        refused("addDrone(-1)", BoundsTest::sixOfBoth, y -> y.addDrone(-1), BAD);
        sentence("promise 4: several errors, FULL before TAKEN");
        refused("addDrone(50)", BoundsTest::sixOfBoth, y -> y.addDrone(50), FULL);
        refused("addDrone(5)", BoundsTest::sixOfBoth, y -> y.addDrone(5), FULL);
    }

    // ---- promise 5

    private static void removeDrone() {
        FormationPlanner x = start("promise 5: Returns the number of drones");
        for (int cell = 0; cell < 6; cell++) x.addDrone(cell);
        for (int left = 5; left >= 0; left--) due("removeDrone, the last", x.removeDrone(left), left);
        for (int cell = 0; cell < 6; cell++) x.addDrone(cell);
        for (int left = 5; left >= 0; left--) due("removeDrone(0)", x.removeDrone(0), left);
        sentence("promise 5: NONE if there is no such drone");
        due("removeDrone(0), none there", x.removeDrone(0), NONE);
        for (int drone : new int[] {-1, 2, 5, 6, Integer.MIN_VALUE, Integer.MAX_VALUE}) {
            FormationPlanner y = crossing();
            due("removeDrone(" + drone + ")", y.removeDrone(drone), NONE);
            cells(y, 0, 0, 2);
        }
        sentence("promise 5: NONE is not an error, so that the plan is discarded and the call can be undone");
        FormationPlanner y = crossing();
        due("removeDrone(2)", y.removeDrone(2), NONE);
        due("count(7)", y.count(7), 0);
        due("count(5)", y.count(5), 7);
        due("undo()", y.undo(), 6);
        cells(y, 0, 0, 2);
        y = stuckOne();
        due("plan()", y.plan(), NO_PLAN);
        due("removeDrone(3)", y.removeDrone(3), NONE);
        due("stuck()", y.stuck(), NONE);
    }

    // ---- promise 6

    private static void addSlot() {
        bad("promise 6: its cell, 0 to 107", NEW, (x, cell) -> x.addSlot(cell), 0, 107);
        FormationPlanner x = start("promise 6: Returns its number");
        for (int number = 0; number < 6; number++) due("addSlot", x.addSlot(107 - number), number);
        sentence("promise 6: FULL if there are 6 slots");
        refused("addSlot(20)", BoundsTest::sixOfBoth, y -> y.addSlot(20), FULL);
        sentence("promise 6: TAKEN if the cell is an obstacle");
        refused("addSlot(6)", BoundsTest::crossing, y -> y.addSlot(6), TAKEN);
        sentence("promise 6: TAKEN if another slot is there");
        refused("addSlot(14)", BoundsTest::crossing, y -> y.addSlot(14), TAKEN);
        refused("addSlot(12)", BoundsTest::crossing, y -> y.addSlot(12), TAKEN);
        sentence("promise 6: another slot, not a drone");
        due("addSlot(0)", crossing().addSlot(0), 2);
        sentence("promise 6: several errors, BAD_ARGUMENT before FULL");
        refused("addSlot(108)", BoundsTest::sixOfBoth, y -> y.addSlot(108), BAD);
        refused("addSlot(-1)", BoundsTest::sixOfBoth, y -> y.addSlot(-1), BAD);
        sentence("promise 6: several errors, FULL before TAKEN");
        refused("addSlot(50)", BoundsTest::sixOfBoth, y -> y.addSlot(50), FULL);
        refused("addSlot(11)", BoundsTest::sixOfBoth, y -> y.addSlot(11), FULL);
    }

    // ---- promise 7

    private static void clearSlots() {
        for (int size = 0; size <= 6; size++) {
            FormationPlanner x = start("promise 7: Removes all slots. Returns the number of slots removed: " + size);
            for (int slot = 0; slot < size; slot++) x.addSlot(slot);
            due("clearSlots()", x.clearSlots(), size);
            due("count(1)", x.count(1), 0);
            cells(x, 1);
            for (int cell = 0; cell < 6; cell++) due("look(" + cell + ")", x.look(cell), 0);
            due("clearSlots(), again", x.clearSlots(), 0);
            due("count(5)", x.count(5), Math.min(size + 2, 8));
        }
    }

    // ---- promise 8

    private static void append() {
        bad("promise 8: the character, 0 to 127", NEW, (x, code) -> x.append(code, 1), 0, 127);
        bad("promise 8: how many times, 1 to 60", NEW, (x, count) -> x.append('a', count), 1, 60);
        for (int count = 1; count <= 60; count++) {
            FormationPlanner x = start("promise 8: Returns the length of the text afterwards: " + count);
            due("append", x.append('a', count), count);
            due("count(6)", x.count(6), count);
            sentence("promise 8: FULL if the text would have more than 60 characters: " + count);
            if (count > 1) due("one too many", x.append('a', 61 - count), FULL);
            due("count(6)", x.count(6), count);
            if (count < 60) due("just enough", x.append('a', 60 - count), 60);
            due("one more", x.append('a', 1), FULL);
            due("count(6)", x.count(6), 60);
        }
        sentence("promise 8: a refused call changes nothing");
        refused("append(97, 60)", BoundsTest::crossing, x -> x.append('a', 60), FULL);
        sentence("promise 8: several errors, BAD_ARGUMENT before FULL");
        FormationPlanner full = new FormationPlanner();
        full.append('a', 60);
        due("append(128, 1)", full.append(128, 1), BAD);
        due("append(-1, 1)", full.append(-1, 1), BAD);
        due("append(97, 61)", full.append('a', 61), BAD);
        due("append(97, MAX)", full.append('a', Integer.MAX_VALUE), BAD);
        due("append(97, 0)", full.append('a', 0), BAD);
        due("append(128, 0)", full.append(128, 0), BAD);
        due("count(6)", full.count(6), 60);
        sentence("promise 8: neither the plan nor what can be undone is touched");
        changesNothing("append(97, 1)", BoundsTest::crossing, x -> x.append('a', 1), 2);
    }

    // ---- promise 9

    /** Nothing but the text may be different behind a refused formation. */
    private static void unread(String text, int answer) {
        changesNothing("\"" + text + "\"", () -> withText(text), x -> x.readSlots(), answer);
        FormationPlanner x = withText(text);
        x.readSlots();
        due("count(6) behind \"" + text + "\"", x.count(6), 0);
        due("readSlots() of the empty text", x.readSlots(), -100);
    }

    private static void readSlots() {
        sentence("promise 9: Replaces the slots by those of the formation, in its order");
        FormationPlanner x = readable();
        due("c1", x.readSlots(), 1);
        cells(x, 1, 2);
        due("c3 a1 b2+", read(x, "c3 a1 b2+"), 3);
        cells(x, 1, 14, 0, 43);
        sentence("promise 9: the old slots are not in the way");
        due("b2+ c3", read(x, "b2+ c3"), 2);
        cells(x, 1, 43, 14);
        sentence("promise 9: a formation may lie on drones");
        due("a1 c1", read(x, "a1 c1"), 2);
        cells(x, 1, 0, 2);
        sentence("promise 9: The text is empty afterwards");
        due("count(6)", x.count(6), 0);
        due("readSlots()", x.readSlots(), -100);
        String[] positions = {"a1", "b2+", "c3++", "d4", "e5+", "f6++"};
        String text = "";
        for (int size = 1; size <= 6; size++) {
            sentence("promise 9: Returns the number of slots: " + size);
            text += (size > 1 ? " " : "") + positions[size - 1];
            due(text, read(x, text), size);
            due("count(1)", x.count(1), size);
        }
        sentence("promise 9: -100 minus the error offset if the text has a syntax error");
        String[] wrong = {"", "x", "a", "ax", "a1x", "a1+x", "a1++x", "a1+++", "a1 ", "a1 x", "a1 a2 ", "a1 a2 a3 a4 a5 a6 a"};
        int[] offsets = {0, 0, 1, 1, 2, 3, 4, 4, 3, 3, 6, 19};
        for (int i = 0; i < wrong.length; i++) unread(wrong[i], -100 - offsets[i]);
        sentence("promise 9: FULL if there are more than 6 positions");
        unread("a1 b1 c1 d1 e1 f1 a4", FULL);
        unread("a1 b1 c1 d1 e1 f1 a4 b4 c4 d4 e4 f4 a5 b5 c5 d5 e5 f5 a6 b6", FULL);
        sentence("promise 9: TAKEN if two positions are equal");
        unread("a1 a1", TAKEN);
        unread("a4++ b1 c1 d1 e1 a4++", TAKEN);
        due("a1 a1+ a1++, which are not equal", read(x, "a1 a1+ a1++"), 3);
        sentence("promise 9: TAKEN if one is an obstacle");
        unread("a2", TAKEN);
        unread("a1 b1 c1 d1 e1 c2", TAKEN);
        sentence("promise 9: several errors, the syntax error before FULL");
        unread("a1 b1 c1 d1 e1 f1 a4 ", -121);
        unread("a1 b1 c1 d1 e1 f1 a4x", -120);
        sentence("promise 9: several errors, the syntax error before TAKEN");
        unread("a1 a1 ", -106);
        unread("a2 x", -103);
        sentence("promise 9: several errors, FULL before TAKEN");
        unread("a1 a1 a1 a1 a1 a1 a1", FULL);
        unread("a2 b1 c1 d1 e1 f1 a4", FULL);
    }

    // ---- promise 10

    private static void flightTime() {
        bad("promise 10: from, a cell, 0 to 107", NEW, (x, from) -> x.flightTime(from, 50), 0, 107);
        bad("promise 10: to, a cell, 0 to 107", NEW, (x, to) -> x.flightTime(50, to), 0, 107);
        bad("promise 10: BAD_ARGUMENT before NONE, from", BoundsTest::crossing, (x, to) -> x.flightTime(6, to), 0, 107);
        bad("promise 10: BAD_ARGUMENT before NONE, to", BoundsTest::crossing, (x, from) -> x.flightTime(from, 6), 0, 107);
        FormationPlanner x = start("promise 10: Returns the flight time from a cell to another one, which drones do not hinder");
        drones(x, 1, 6, 36);
        due("flightTime(0, 3)", x.flightTime(0, 3), 3);
        due("flightTime(0, 0)", x.flightTime(0, 0), 0);
        sentence("promise 10: NONE if it cannot be reached");
        x = unassigned();
        due("flightTime(2, 0)", x.flightTime(2, 0), NONE);
        due("flightTime(0, 2)", x.flightTime(0, 2), NONE);
        due("flightTime(2, 2)", x.flightTime(2, 2), 0);
        sentence("promise 10: NONE if one of them is an obstacle");
        due("flightTime(6, 0)", x.flightTime(6, 0), NONE);
        due("flightTime(0, 6)", x.flightTime(0, 6), NONE);
        due("flightTime(6, 8)", x.flightTime(6, 8), NONE);
        due("flightTime(6, 6)", x.flightTime(6, 6), NONE);
    }

    // ---- promise 11

    private static void assigned() {
        noSuchDrone("promise 11: NONE if there is no such drone", BoundsTest::crossing, (x, drone) -> x.assigned(drone));
        range("promise 11: NONE if there is no such drone, of six", BoundsTest::sixOfBoth, (x, drone) -> x.assigned(drone), 0, 5, NONE);
        sentence("promise 11: NONE in a new object");
        due("assigned(0)", new FormationPlanner().assigned(0), NONE);
        sentence("promise 11: NONE comes first");
        refused("and MISMATCH", BoundsTest::oneSlotMore, x -> x.assigned(2), NONE);
        refused("and NO_ASSIGNMENT", BoundsTest::unassigned, x -> x.assigned(2), NONE);
        sentence("promise 11: Returns the slot of a drone by the best assignment, with six of both");
        FormationPlanner six = sixOfBoth();
        for (int drone = 0; drone < 6; drone++) due("assigned(" + drone + ")", six.assigned(drone), drone);
        sentence("promise 11: MISMATCH");
        refused("a drone more", BoundsTest::oneDroneMore, x -> x.assigned(0), MISMATCH);
        refused("a slot more", BoundsTest::oneSlotMore, x -> x.assigned(0), MISMATCH);
        sentence("promise 11: NO_ASSIGNMENT");
        refused("the drone that is shut in", BoundsTest::unassigned, x -> x.assigned(1), NO_ASSIGNMENT);
        refused("the other one", BoundsTest::unassigned, x -> x.assigned(0), NO_ASSIGNMENT);
        sentence("promise 11: several errors, MISMATCH before NO_ASSIGNMENT");
        refused("assigned(1)", BoundsTest::unassignedAndMismatched, x -> x.assigned(1), MISMATCH);
    }

    // ---- promise 12

    private static void assignment() {
        bad("promise 12: BAD_ARGUMENT if what is not from 0 to 3", BoundsTest::crossing, (x, what) -> x.assignment(what), 0, 3);
        bad("promise 12: BAD_ARGUMENT in a new object", NEW, (x, what) -> x.assignment(what), 0, 3);
        bad("promise 12: several errors, BAD_ARGUMENT before MISMATCH", BoundsTest::oneDroneMore, (x, what) -> x.assignment(what), 0, 3);
        bad("promise 12: several errors, BAD_ARGUMENT before NO_ASSIGNMENT", BoundsTest::unassigned, (x, what) -> x.assignment(what), 0, 3);
        for (int what = 0; what < 4; what++) {
            int asked = what;
            sentence("promise 12: MISMATCH");
            refused("assignment(" + what + ")", BoundsTest::oneDroneMore, x -> x.assignment(asked), MISMATCH);
            refused("assignment(" + what + ")", BoundsTest::oneSlotMore, x -> x.assignment(asked), MISMATCH);
            sentence("promise 12: NO_ASSIGNMENT");
            refused("assignment(" + what + ")", BoundsTest::unassigned, x -> x.assignment(asked), NO_ASSIGNMENT);
            sentence("promise 12: several errors, MISMATCH before NO_ASSIGNMENT");
            refused("assignment(" + what + ")", BoundsTest::unassignedAndMismatched, x -> x.assignment(asked), MISMATCH);
        }
        sentence("promise 12: the number of all assignments, at most 720");
        due("assignment(3)", sixOfBoth().assignment(3), 720);
        FormationPlanner x = star("promise 12: the number of assignments with this greatest time, all of them");
        assignments(x, 4, 12, 6, 6);
        x = new FormationPlanner();
        for (int cell : new int[] {0, 1, 2}) x.addDrone(cell);
        for (int cell : new int[] {72, 73, 74}) x.addSlot(cell);
        sentence("promise 12: the number of assignments with this greatest time, a single one");
        assignments(x, 2, 6, 1, 6);
    }

    // ---- promise 13

    private static void plan() {
        sentence("promise 13: Makes a plan, in place of an earlier one");
        FormationPlanner x = crossing();
        due("fly(1)", x.fly(1), 0);
        due("flight(1, 0)", x.flight(1, 0), 4);
        due("plan()", x.plan(), 4);
        due("flight(0, 0)", x.flight(0, 0), 3);
        due("fly(60)", x.fly(60), 2);
        due("plan(), with all at their slots", x.plan(), 0);
        due("flight(1, 3)", x.flight(1, 3), 1);
        sentence("promise 13: MISMATCH");
        refused("a drone more", BoundsTest::oneDroneMore, y -> y.plan(), MISMATCH);
        refused("a slot more", BoundsTest::oneSlotMore, y -> y.plan(), MISMATCH);
        sentence("promise 13: NO_ASSIGNMENT");
        refused("a drone is shut in", BoundsTest::unassigned, y -> y.plan(), NO_ASSIGNMENT);
        sentence("promise 13: several errors, MISMATCH before NO_ASSIGNMENT");
        refused("both", BoundsTest::unassignedAndMismatched, y -> y.plan(), MISMATCH);
        sentence("promise 13: NO_PLAN if a drone is stuck");
        x = stuckOne();
        due("plan()", x.plan(), NO_PLAN);
        due("plan(), again", x.plan(), NO_PLAN);
        sentence("promise 13: after NO_PLAN, there is no plan any more");
        x = start("promise 13: after NO_PLAN, there is no plan any more");
        // With the wind the third drone has the greatest time 2, which the first two have when they swap; a tick
        // later it still needs 2 for the whole move, which lets the first one fly to the last cell.
        for (int cell : new int[] {4, 6, 7, 8, 9, 36, 37, 38, 39}) x.setObstacle(cell, 1);
        x.setWind(2, 1);
        drones(x, 0, 1, 73);
        slots(x, 3, 2, 72);
        due("plan()", x.plan(), 2);
        due("fly(1)", x.fly(1), 0);
        due("count(7)", x.count(7), 1);
        due("plan()", x.plan(), NO_PLAN);
        due("count(7)", x.count(7), 0);
        due("at(0, 0)", x.at(0, 0), NO_PLAN);
        due("fly(1)", x.fly(1), NO_PLAN);
        due("undo()", x.undo(), 7);
        cells(x, 0, 0, 1, 73);
    }

    // ---- promise 14

    private static void stuck() {
        sentence("promise 14: NONE if none was");
        due("a new object", new FormationPlanner().stuck(), NONE);
        due("behind a plan", crossing().stuck(), NONE);
        sentence("promise 14: NONE if plan was not called");
        FormationPlanner x = stuckOne();
        due("stuck()", x.stuck(), NONE);
        sentence("promise 14: Returns the drone that was stuck when a plan was made most recently");
        due("plan()", x.plan(), NO_PLAN);
        due("stuck()", x.stuck(), 1);
        due("stuck(), again", x.stuck(), 1);
        sentence("promise 14: what discards no plan leaves it");
        due("fly(1)", x.fly(1), NO_PLAN);
        due("addDrone(4)", x.addDrone(4), TAKEN);
        due("addSlot(108)", x.addSlot(108), BAD);
        due("append('a', 1)", x.append('a', 1), 1);
        due("readSlots()", x.readSlots(), -101);
        due("stuck()", x.stuck(), 1);
        for (int call = 0; call < 8; call++) {
            sentence("promise 14: NONE since the latest call that discards the plan: " + call);
            x = stuckOne();
            x.append('f', 1);
            x.append('6', 1);
            due("plan()", x.plan(), NO_PLAN);
            change(x, call);
            due("stuck()", x.stuck(), NONE);
        }
        sentence("promise 14: plan was not called with success or NO_PLAN");
        x = stuckOne();
        due("plan()", x.plan(), NO_PLAN);
        due("removeDrone(2)", x.removeDrone(2), 2);
        due("plan()", x.plan(), MISMATCH);
        due("stuck()", x.stuck(), NONE);
        sentence("promise 14: a later plan, with which none is stuck");
        x = stuckOne();
        due("plan()", x.plan(), NO_PLAN);
        due("setObstacle(7, 0)", x.setObstacle(7, 0), 1);
        due("plan()", x.plan() > 0 ? 1 : 0, 1);
        due("stuck()", x.stuck(), NONE);
    }

    private static void change(FormationPlanner x, int call) {
        switch (call) {
            case 0: due("setWind", x.setWind(1, 0), 0); break;
            case 1: due("setObstacle", x.setObstacle(4, 1), 1); break;
            case 2: due("addDrone", x.addDrone(100), 3); break;
            case 3: due("removeDrone", x.removeDrone(0), 2); break;
            case 4: due("addSlot", x.addSlot(100), 3); break;
            case 5: due("clearSlots", x.clearSlots(), 3); break;
            case 6: due("readSlots", x.readSlots(), 1); break;
            default: due("undo", x.undo(), 7); break;
        }
    }

    // ---- promises 15 to 18

    private static void at() {
        bad("promise 15: the time from the present one, 0 to 60", BoundsTest::crossing, (x, time) -> x.at(1, time), 0, 60);
        bad("promise 15: several errors, BAD_ARGUMENT before NO_PLAN", BoundsTest::unplanned, (x, time) -> x.at(1, time), 0, 60);
        noSuchDrone("promise 15: NONE if there is no such drone", BoundsTest::crossing, (x, drone) -> x.at(drone, 0));
        noSuchDrone("promise 15: NONE comes first, before BAD_ARGUMENT", BoundsTest::crossing, (x, drone) -> x.at(drone, 61));
        noSuchDrone("promise 15: NONE comes first, before NO_PLAN", BoundsTest::unplanned, (x, drone) -> x.at(drone, 0));
        sentence("promise 15: NO_PLAN if there is no plan");
        for (int time : new int[] {0, 1, 60}) refused("at(0, " + time + ")", BoundsTest::unplanned, x -> x.at(0, time), NO_PLAN);
        sentence("promise 15: Returns the cell, at 0 and at 60");
        FormationPlanner x = crossing();
        due("at(1, 0)", x.at(1, 0), 2);
        due("at(1, 60)", x.at(1, 60), 12);
        sentence("promise 15: from the present one");
        due("fly(4)", x.fly(4), 1);
        due("at(1, 0)", x.at(1, 0), 13);
        due("at(1, 1)", x.at(1, 1), 12);
        due("at(1, 60)", x.at(1, 60), 12);
        due("fly(60)", x.fly(60), 2);
        due("at(1, 0)", x.at(1, 0), 12);
        due("at(1, 60)", x.at(1, 60), 12);
    }

    private static void action() {
        bad("promise 16: the time from the present one, 0 to 59", BoundsTest::crossing, (x, time) -> x.action(1, time), 0, 59);
        bad("promise 16: several errors, BAD_ARGUMENT before NO_PLAN", BoundsTest::unplanned, (x, time) -> x.action(1, time), 0, 59);
        noSuchDrone("promise 16: NONE if there is no such drone", BoundsTest::crossing, (x, drone) -> x.action(drone, 0));
        noSuchDrone("promise 16: NONE comes first, before BAD_ARGUMENT", BoundsTest::crossing, (x, drone) -> x.action(drone, 60));
        noSuchDrone("promise 16: NONE comes first, before NO_PLAN", BoundsTest::unplanned, (x, drone) -> x.action(drone, 0));
        sentence("promise 16: NO_PLAN if there is no plan");
        for (int time : new int[] {0, 1, 59}) refused("action(0, " + time + ")", BoundsTest::unplanned, x -> x.action(0, time), NO_PLAN);
        sentence("promise 16: Returns the action, 0 from its arrival on");
        FormationPlanner x = crossing();
        acts(x, 0, 1, 3, 3, 1);
        acts(x, 1, 0, 2, 3, 3, 2);
        due("fly(4)", x.fly(4), 1);
        acts(x, 0);
        acts(x, 1, 2);
        due("fly(60)", x.fly(60), 2);
        acts(x, 1);
    }

    private static void flight() {
        bad("promise 17: BAD_ARGUMENT if what is not from 0 to 4", BoundsTest::crossing, (x, what) -> x.flight(1, what), 0, 4);
        bad("promise 17: several errors, BAD_ARGUMENT before NO_PLAN", BoundsTest::unplanned, (x, what) -> x.flight(1, what), 0, 4);
        for (int what = 0; what < 5; what++) {
            int asked = what;
            noSuchDrone("promise 17: NONE if there is no such drone", BoundsTest::crossing, (x, drone) -> x.flight(drone, asked));
            noSuchDrone("promise 17: NONE comes first, before NO_PLAN", BoundsTest::unplanned, (x, drone) -> x.flight(drone, asked));
            sentence("promise 17: NO_PLAN if there is no plan");
            refused("flight(0, " + what + ")", BoundsTest::unplanned, x -> x.flight(0, asked), NO_PLAN);
        }
        noSuchDrone("promise 17: NONE comes first, before BAD_ARGUMENT", BoundsTest::crossing, (x, drone) -> x.flight(drone, 5));
        sentence("promise 17: 0 for its arrival, 0 if it has arrived");
        int[] arrivals = {5, 4, 3, 2, 1, 0, 0};
        for (int ticks = 0; ticks < arrivals.length; ticks++) {
            FormationPlanner x = crossing();
            if (ticks > 0) x.fly(ticks);
            due("flight(1, 0) behind " + ticks, x.flight(1, 0), arrivals[ticks]);
        }
        sentence("promise 17: 1 for the number of ticks until then in which it waits");
        FormationPlanner x = crossing();
        due("flight(0, 1)", x.flight(0, 1), 0);
        due("flight(1, 1)", x.flight(1, 1), 1);
        due("fly(1)", x.fly(1), 0);
        due("flight(1, 1)", x.flight(1, 1), 0);
        sentence("promise 17: 1, in which it waits and does not move against the wind");
        x = new FormationPlanner();
        x.setWind(0, 2);
        x.addDrone(0);
        x.addSlot(1);
        due("plan()", x.plan(), 2);
        due("flight(0, 1)", x.flight(0, 1), 0);
        sentence("promise 17: 2 for its flight time without others from its cell to its slot");
        x = crossing();
        due("flight(1, 2)", x.flight(1, 2), 4);
        x.fly(60);
        due("flight(1, 2), at its slot", x.flight(1, 2), 0);
        sentence("promise 17: 3 for its position in the order of planning, from 0");
        x = sixOfBoth();
        for (int drone = 0; drone < 6; drone++) due("flight(" + drone + ", 3)", x.flight(drone, 3), drone);
        sentence("promise 17: 4 for its slot");
        for (int drone = 0; drone < 6; drone++) due("flight(" + drone + ", 4)", x.flight(drone, 4), drone);
    }

    private static void explain() {
        sentence("promise 18: the time from the present one, 0 to 59");
        for (int time = 0; time < 60; time++) due("explain(1, " + time + ")", crossing().explain(1, time), time == 0 ? 0 : NONE);
        bad("promise 18: BAD_ARGUMENT if time is out of range", BoundsTest::crossing, (x, time) -> x.explain(1, time), 0, 59);
        bad("promise 18: several errors, BAD_ARGUMENT before NO_PLAN", BoundsTest::unplanned, (x, time) -> x.explain(1, time), 0, 59);
        sentence("promise 18: NONE if there is no such drone");
        for (int drone : new int[] {-1, 2, 6, Integer.MIN_VALUE, Integer.MAX_VALUE}) {
            refused("explain(" + drone + ", 0)", BoundsTest::crossing, x -> x.explain(drone, 0), NONE);
        }
        noSuchDrone("promise 18: NONE comes first, before BAD_ARGUMENT", BoundsTest::crossing, (x, drone) -> x.explain(drone, 60));
        noSuchDrone("promise 18: NONE comes first, before NO_PLAN", BoundsTest::unplanned, (x, drone) -> x.explain(drone, 0));
        sentence("promise 18: NO_PLAN if there is no plan");
        for (int time : new int[] {0, 1, 59}) refused("explain(1, " + time + ")", BoundsTest::unplanned, x -> x.explain(1, time), NO_PLAN);
        sentence("promise 18: NONE if it does not begin to wait at this time before its arrival");
        FormationPlanner x = crossing();
        for (int time = 0; time < 60; time++) due("explain(0, " + time + ")", x.explain(0, time), NONE);
        sentence("promise 18: the time from the present one");
        due("fly(1)", x.fly(1), 0);
        due("explain(1, 0)", x.explain(1, 0), NONE);
        x = narrow("promise 18: NONE if there would be no conflict", 4, row(2, 7, 8, 9, 15), row(7, 2), row(9, 15));
        due("plan()", x.plan(), 4);
        flies(x, 0, 7, 8, 9, 9, 15);
        // It waits for 9 to be left, but its first action leads to 8 at 2, where nobody is.
        acts(x, 1, 0, 3, 3, 1);
        explained(x);
        explainAtItsSlot();
    }

    /** A drone waits at its slot until it has to let the first one pass. */
    private static void explainAtItsSlot() {
        FormationPlanner x = start("promise 18: NONE if there would be no conflict, since it needs no way from its slot to its slot");
        onlyFree(x, 0, 1, 2, 3, 8, 72, 73, 74, 75);
        drones(x, 0, 2, 72);
        slots(x, 3, 2, 75);
        due("plan()", x.plan(), 3);
        flies(x, 0, 0, 1, 2, 3);
        flies(x, 1, 2, 2, 8, 2);
        acts(x, 1, 0, 3, 4);
        due("flight(1, 0)", x.flight(1, 0), 3);
        explained(x);
    }

    // ---- promise 19

    private static void conflictsWithout() {
        sentence("promise 19: NO_PLAN if there is no plan");
        refused("a new object", NEW, x -> x.conflictsWithout(), NO_PLAN);
        refused("unplanned", BoundsTest::unplanned, x -> x.conflictsWithout(), NO_PLAN);
        FormationPlanner stuck = stuckOne();
        due("plan()", stuck.plan(), NO_PLAN);
        due("stuck", stuck.conflictsWithout(), NO_PLAN);
        sentence("promise 19: Returns the number of pairs, none of them");
        due("six that fly side by side", sixOfBoth().conflictsWithout(), 0);
        sentence("promise 19: Returns the number of pairs");
        FormationPlanner x = crossing();
        due("conflictsWithout()", x.conflictsWithout(), 1);
        sentence("promise 19: from the cells at the present time");
        due("fly(1)", x.fly(1), 0);
        due("conflictsWithout()", x.conflictsWithout(), 0);
        x = star("promise 19: each pair once");
        due("plan()", x.plan() >= 4 ? 1 : 0, 1);
        due("conflictsWithout()", x.conflictsWithout(), 3);
        exchanging();
        sentence("promise 19: where a drone stays at its slot from its arrival on");
        x = new FormationPlanner();
        for (int cell = 0; cell < 108; cell++) if (cell > 3 && cell != 7 && (cell < 72 || cell > 75)) x.setObstacle(cell, 1);
        for (int cell : new int[] {0, 1, 72}) x.addDrone(cell);
        for (int cell : new int[] {2, 1, 75}) x.addSlot(cell);
        due("plan()", x.plan(), 3);
        // The second drone is at its slot, through which the first one flies.
        due("conflictsWithout()", x.conflictsWithout(), 1);
    }

    /** Of the conflicts that are left behind a tick none is in the same cell. */
    private static void exchanging() {
        FormationPlanner x = narrow("promise 19: would be in conflict, by exchanging cells alone", 2,
            row(7, 8, 13, 14, 20, 21, 26), row(20, 14, 26), row(21, 8, 13));
        due("plan()", x.plan(), 6);
        flies(x, 0, 20, 14, 8, 14, 20, 20, 21);
        flies(x, 1, 14, 13, 7, 7, 8);
        flies(x, 2, 26, 20, 14, 13);
        due("conflictsWithout(), in 20 at 1", x.conflictsWithout(), 1);
        due("fly(1)", x.fly(1), 0);
        // The ways are 14 20 20 21, 13 13 14 8 and 20 14 13.
        due("conflictsWithout(), a tick later", x.conflictsWithout(), 2);
    }

    // ---- promise 20

    private static void fly() {
        bad("promise 20: the number of ticks, 1 to 60", BoundsTest::crossing, (x, ticks) -> x.fly(ticks), 1, 60);
        bad("promise 20: several errors, BAD_ARGUMENT before NO_PLAN", BoundsTest::unplanned, (x, ticks) -> x.fly(ticks), 1, 60);
        sentence("promise 20: NO_PLAN if there is no plan");
        for (int ticks : new int[] {1, 60}) refused("fly(" + ticks + ")", BoundsTest::unplanned, x -> x.fly(ticks), NO_PLAN);
        refused("fly(1) in a new object", NEW, x -> x.fly(1), NO_PLAN);
        int[] arrived = {0, 0, 0, 0, 1, 2, 2};
        for (int ticks = 1; ticks < arrived.length; ticks++) {
            sentence("promise 20: Returns the number of drones that have arrived then: " + ticks);
            due("fly", crossing().fly(ticks), arrived[ticks]);
            FormationPlanner x = crossing();
            for (int tick = 1; tick < ticks; tick++) x.fly(1);
            due("fly(1), the last of them", x.fly(1), arrived[ticks]);
        }
        sentence("promise 20: have arrived, not only are at their slots");
        FormationPlanner x = new FormationPlanner();
        for (int cell = 0; cell < 108; cell++) if (cell > 4 && cell != 9 && (cell < 72 || cell > 76)) x.setObstacle(cell, 1);
        for (int cell : new int[] {0, 1, 72}) x.addDrone(cell);
        for (int cell : new int[] {4, 2, 76}) x.addSlot(cell);
        due("plan()", x.plan(), 5);
        due("fly(1)", x.fly(1), 0);
        due("count(3)", x.count(3), 1);
        sentence("promise 20: none of no drones");
        x = new FormationPlanner();
        due("plan()", x.plan(), 0);
        due("fly(1)", x.fly(1), 0);
        sentence("promise 20: all of six");
        due("fly(1)", sixOfBoth().fly(1), 6);
    }

    // ---- promise 21

    private static void greatestWith() {
        bad("promise 21: the layer, 0 to 2", BoundsTest::crossing, (x, layer) -> x.greatestWith(layer, 1), 0, 2);
        bad("promise 21: the wind, 0 to 4", BoundsTest::crossing, (x, wind) -> x.greatestWith(2, wind), 0, 4);
        bad("promise 21: several errors, BAD_ARGUMENT before MISMATCH", BoundsTest::oneDroneMore, (x, layer) -> x.greatestWith(layer, 1), 0, 2);
        bad("promise 21: several errors, BAD_ARGUMENT before NO_ASSIGNMENT", BoundsTest::unassigned, (x, wind) -> x.greatestWith(0, wind), 0, 4);
        sentence("promise 21: BAD_ARGUMENT, also both");
        refused("greatestWith(3, 5)", BoundsTest::crossing, x -> x.greatestWith(3, 5), BAD);
        sentence("promise 21: MISMATCH");
        refused("a drone more", BoundsTest::oneDroneMore, x -> x.greatestWith(0, 1), MISMATCH);
        refused("a slot more", BoundsTest::oneSlotMore, x -> x.greatestWith(2, 4), MISMATCH);
        sentence("promise 21: NO_ASSIGNMENT");
        refused("a drone is shut in", BoundsTest::unassigned, x -> x.greatestWith(0, 1), NO_ASSIGNMENT);
        sentence("promise 21: several errors, MISMATCH before NO_ASSIGNMENT");
        refused("both", BoundsTest::unassignedAndMismatched, x -> x.greatestWith(0, 1), MISMATCH);
        sentence("promise 21: if a layer had another wind, which it has not");
        changesNothing("greatestWith(0, 2)", BoundsTest::single, x -> x.greatestWith(0, 2), 5);
        changesNothing("greatestWith(2, 2)", BoundsTest::single, x -> x.greatestWith(2, 2), 3);
        sentence("promise 21: also if it has this wind already");
        FormationPlanner x = single();
        due("greatestWith(0, 0)", x.greatestWith(0, 0), 3);
        due("setWind(0, 2)", x.setWind(0, 2), 0);
        due("greatestWith(0, 2)", x.greatestWith(0, 2), 5);
        due("greatestWith(0, 0)", x.greatestWith(0, 0), 3);
        due("setWind(0, 2)", x.setWind(0, 2), 2);
        sentence("promise 21: in a new object");
        due("greatestWith(0, 0)", new FormationPlanner().greatestWith(0, 0), 0);
    }

    // ---- promises 22 to 24

    private static void cellOf() {
        bad("promise 22: BAD_ARGUMENT if what is not 0 or 1", BoundsTest::crossing, (x, what) -> x.cellOf(what, 0), 0, 1);
        bad("promise 22: several, BAD_ARGUMENT before NONE", BoundsTest::crossing, (x, what) -> x.cellOf(what, 2), 0, 1);
        noSuchDrone("promise 22: NONE if there is no such drone", BoundsTest::crossing, (x, number) -> x.cellOf(0, number));
        noSuchDrone("promise 22: NONE if there is no such slot", BoundsTest::crossing, (x, number) -> x.cellOf(1, number));
        range("promise 22: NONE, of six drones", BoundsTest::sixOfBoth, (x, number) -> x.cellOf(0, number), 0, 5, NONE);
        range("promise 22: NONE, of six slots", BoundsTest::sixOfBoth, (x, number) -> x.cellOf(1, number), 0, 5, NONE);
        sentence("promise 22: NONE, of none");
        due("cellOf(0, 0)", new FormationPlanner().cellOf(0, 0), NONE);
        due("cellOf(1, 0)", new FormationPlanner().cellOf(1, 0), NONE);
        sentence("promise 22: of the drones and slots each its own");
        due("cellOf(0, 1), one drone more", oneDroneMore().cellOf(0, 2), 20);
        due("cellOf(1, 2), one drone more", oneDroneMore().cellOf(1, 2), NONE);
        due("cellOf(1, 2), one slot more", oneSlotMore().cellOf(1, 2), 20);
        due("cellOf(0, 2), one slot more", oneSlotMore().cellOf(0, 2), NONE);
    }

    private static void look() {
        bad("promise 23: the cell, 0 to 107", BoundsTest::crossing, (x, cell) -> x.look(cell), 0, 107);
        sentence("promise 23: Returns 1 for an obstacle");
        due("look(6)", crossing().look(6), 1);
        sentence("promise 23: 0 without one");
        due("look(107)", crossing().look(107), 0);
        sentence("promise 23: 10 times the number of its drone plus 10, from 10 to 60");
        for (int drone = 0; drone < 6; drone++) due("look(" + drone + ")", sixOfBoth().look(drone), 10 * drone + 10);
        sentence("promise 23: plus 100 times the number of its slot plus 100, from 100 to 600");
        for (int slot = 0; slot < 6; slot++) due("look(" + (slot + 6) + ")", sixOfBoth().look(slot + 6), 100 * slot + 100);
        sentence("promise 23: both");
        FormationPlanner x = sixOfBoth();
        due("fly(60)", x.fly(60), 6);
        for (int slot = 0; slot < 6; slot++) due("look(" + (slot + 6) + ")", x.look(slot + 6), 110 * slot + 110);
        for (int cell = 0; cell < 6; cell++) due("look(" + cell + "), left", x.look(cell), 0);
    }

    private static void count() {
        bad("promise 24: BAD_ARGUMENT if what is not from 0 to 7", BoundsTest::crossing, (x, what) -> x.count(what), 0, 7);
        int[] none = new int[8], some = {2, 2, 2, 0, 0, 6, 1, 1}, six = {6, 6, 1, 0, 0, 8, 0, 1};
        String[] names = {"drones", "slots", "obstacles", "drones that are at a slot", "ticks that were flown", "changes that can be undone",
            "characters of the text", "1 if there is a plan, otherwise 0"};
        for (int what = 0; what < 8; what++) {
            sentence("promise 24: " + what + " for " + names[what]);
            due("a new object", new FormationPlanner().count(what), none[what]);
            due("two of both", crossing().count(what), some[what]);
            due("six of both", sixOfBoth().count(what), six[what]);
        }
        due("unplanned", unplanned().count(7), 0);
        sentence("promise 24: drones that are at a slot, whosoever it is");
        FormationPlanner x = new FormationPlanner();
        for (int cell = 0; cell < 6; cell++) {
            due("count(3)", x.count(3), cell);
            x.addDrone(cell);
            due("count(3)", x.count(3), cell);
            x.addSlot(cell);
        }
        due("count(3), all six", x.count(3), 6);
        sentence("promise 24: ticks that were flown, also beyond the end of a plan");
        x = crossing();
        x.fly(60);
        x.fly(60);
        due("count(4)", x.count(4), 120);
        sentence("promise 24: less those that were undone");
        due("undo()", x.undo(), 7);
        due("count(4)", x.count(4), 60);
        due("undo()", x.undo(), 6);
        due("count(4)", x.count(4), 0);
        sentence("promise 24: ticks stay when another call is undone, and with another plan");
        due("plan()", x.plan(), 5);
        x.fly(3);
        due("setWind(0, 1)", x.setWind(0, 1), 0);
        due("undo()", x.undo(), 7);
        due("plan()", x.plan(), 2);
        due("count(4)", x.count(4), 3);
    }

    // ---- promise 25

    private static void undo() {
        sentence("promise 25: NONE if there is none");
        FormationPlanner x = new FormationPlanner();
        due("undo()", x.undo(), NONE);
        due("undo(), again", x.undo(), NONE);
        due("count(5)", x.count(5), 0);
        sentence("promise 25: At most 8 can be undone; older ones are forgotten");
        for (int calls = 1; calls <= 20; calls++) {
            due("setObstacle", x.setObstacle(calls, 1), 0);
            due("count(5) behind " + calls, x.count(5), Math.min(calls, 8));
        }
        sentence("promise 25: Returns the number of calls that can still be undone");
        for (int left = 7; left >= 0; left--) {
            due("undo()", x.undo(), left);
            due("count(2)", x.count(2), 12 + left);
            due("look", x.look(13 + left), 0);
        }
        due("undo()", x.undo(), NONE);
        due("count(2)", x.count(2), 12);
        sentence("promise 25: that was not undone");
        due("setObstacle", x.setObstacle(50, 1), 0);
        due("setObstacle", x.setObstacle(51, 1), 0);
        due("undo()", x.undo(), 1);
        due("setObstacle", x.setObstacle(52, 1), 0);
        due("undo()", x.undo(), 1);
        due("undo()", x.undo(), 0);
        due("count(2)", x.count(2), 12);
        undoEach();
        undoText();
        undoPlan();
    }

    private static void undoEach() {
        for (int call = 0; call < 8; call++) {
            sentence("promise 25: Undoes the latest call of setWind, setObstacle, addDrone, removeDrone, addSlot, clearSlots, readSlots or fly: " + call);
            FormationPlanner x = readable(), twin = readable();
            switch (call) {
                case 0: due("setWind", x.setWind(0, 1), 0); break;
                case 1: due("setObstacle", x.setObstacle(6, 0), 1); break;
                case 2: due("addDrone", x.addDrone(107), 2); break;
                case 3: due("removeDrone", x.removeDrone(0), 1); break;
                case 4: due("addSlot", x.addSlot(107), 2); break;
                case 5: due("clearSlots", x.clearSlots(), 2); break;
                case 6: due("readSlots", x.readSlots(), 1); break;
                default: due("fly", x.fly(60), 2); break;
            }
            due("count(5)", x.count(5), 7);
            due("undo()", x.undo(), 6);
            // So that there is no plan with the other one either.
            twin.setWind(0, 0);
            twin.undo();
            dueText("all as before", seen(x), seen(twin));
        }
        sentence("promise 25: without an error code");
        refused("setWind(3, 0)", BoundsTest::crossing, x -> x.setWind(3, 0), BAD);
        sentence("promise 25: other calls are not undone");
        FormationPlanner x = crossing();
        x.plan();
        x.greatestWith(0, 1);
        x.look(0);
        due("undo()", x.undo(), 5);
        due("count(1), the latest slot is gone", x.count(1), 1);
    }

    private static void undoText() {
        sentence("promise 25: but not what it did to the text");
        FormationPlanner x = readable();
        due("readSlots()", x.readSlots(), 1);
        due("undo()", x.undo(), 6);
        due("count(6), still empty", x.count(6), 0);
        cells(x, 1, 14, 12);
        due("append", x.append('a', 3), 3);
        due("undo()", x.undo(), 5);
        due("count(6), still there", x.count(6), 3);
    }

    private static void undoPlan() {
        sentence("promise 25: The plan is discarded");
        FormationPlanner x = crossing();
        due("undo()", x.undo(), 5);
        due("count(7)", x.count(7), 0);
        x = crossing();
        due("fly(1)", x.fly(1), 0);
        due("undo(), of fly", x.undo(), 6);
        due("count(7)", x.count(7), 0);
        due("fly(1)", x.fly(1), NO_PLAN);
        cells(x, 0, 0, 2);
        sentence("promise 25: The plan is discarded, also if there is none to undo");
        x = new FormationPlanner();
        due("plan()", x.plan(), 0);
        due("undo()", x.undo(), NONE);
        due("count(7)", x.count(7), 0);
    }
}
