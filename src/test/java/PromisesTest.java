/** For each promise ordinary inputs, the edges that the document names, and wrong inputs. */
public final class PromisesTest extends Calls {
    public static void main(String[] args) {
        promise1();
        promise2();
        promise3();
        promise4();
        promise5();
        promise6();
        promise7();
        promise8();
        promise9();
        promise9Errors();
        promise10();
        promise11();
        promise12();
        promise13();
        promise13Conflicts();
        promise13Latest();
        promise14();
        promise15();
        promise16();
        promise17();
        promise18();
        promise18TwoTicks();
        promise19();
        promise20();
        promise21();
        promise22();
        promise23();
        promise24();
        promise25();
        checks.end();
    }

    private static void promise1() {
        FormationPlanner x = start("promise 1");
        for (int what = 0; what < 8; what++) due("count(" + what + ")", x.count(what), 0);
        for (int cell = 0; cell < 108; cell++) due("look(" + cell + ")", x.look(cell), 0);
        cells(x, 0);
        cells(x, 1);
        due("stuck()", x.stuck(), NONE);
        due("at(0, 0)", x.at(0, 0), NONE);
        due("fly(1)", x.fly(1), NO_PLAN);
        due("conflictsWithout()", x.conflictsWithout(), NO_PLAN);
        due("undo()", x.undo(), NONE);
        due("readSlots()", x.readSlots(), -100);
        for (int layer = 0; layer < 3; layer++) due("setWind", x.setWind(layer, 0), 0);
        // Two objects have nothing in common.
        FormationPlanner y = new FormationPlanner();
        y.addDrone(5);
        y.setObstacle(7, 1);
        due("look(5)", x.look(5), 0);
        due("count(2)", x.count(2), 0);
    }

    private static void promise2() {
        FormationPlanner x = start("promise 2");
        int[] against = {0, 2, 1, 4, 3};
        int[] steps = {0, 1, -1, 6, -6, 36, -36};
        for (int layer = 0; layer < 3; layer++) {
            for (int wind = 1; wind <= 5; wind++) {
                due("setWind(" + layer + ", " + wind % 5 + ")", x.setWind(layer, wind % 5), wind - 1);
                for (int other = 0; other < 3; other++) {
                    for (int action = 1; action < 7; action++) {
                        int cell = 36 * other + 14, to = cell + steps[action];
                        if (to < 0 || to > 107) continue;
                        int ticks = layer == other && action == against[wind % 5] ? 2 : 1;
                        due("flightTime(" + cell + ", " + to + ") with wind " + wind % 5, x.flightTime(cell, to), ticks);
                    }
                }
            }
        }
        due("count(5)", x.count(5), 8);
        x = planned("promise 2, errors");
        for (int out : OUT) {
            due("setWind(out, 0)", x.setWind(out, 0), BAD);
            due("setWind(0, out)", x.setWind(0, out), BAD);
        }
        due("setWind(3, 0)", x.setWind(3, 0), BAD);
        due("setWind(2, 5)", x.setWind(2, 5), BAD);
        due("count(5)", x.count(5), 2);
        stands(x, true);
        due("setWind(0, 0)", x.setWind(0, 0), 0);
        stands(x, false);
        due("count(5)", x.count(5), 3);
    }

    private static void promise3() {
        FormationPlanner x = planned("promise 3");
        due("setObstacle(108, 1)", x.setObstacle(108, 1), BAD);
        for (int out : OUT) {
            due("setObstacle(out, 1)", x.setObstacle(out, 1), BAD);
            due("setObstacle(5, out)", x.setObstacle(5, out), BAD);
        }
        due("setObstacle(5, 2)", x.setObstacle(5, 2), BAD);
        due("setObstacle(0, 2)", x.setObstacle(0, 2), BAD);
        due("setObstacle(0, 1)", x.setObstacle(0, 1), TAKEN);
        due("setObstacle(3, 1)", x.setObstacle(3, 1), TAKEN);
        due("count(2)", x.count(2), 0);
        due("count(5)", x.count(5), 2);
        stands(x, true);
        due("setObstacle(0, 0)", x.setObstacle(0, 0), 0);
        stands(x, false);
        due("setObstacle(3, 0)", x.setObstacle(3, 0), 0);
        due("count(5)", x.count(5), 4);
        due("setObstacle(107, 1)", x.setObstacle(107, 1), 0);
        due("setObstacle(107, 1)", x.setObstacle(107, 1), 1);
        due("count(2)", x.count(2), 1);
        due("look(107)", x.look(107), 1);
        due("count(5)", x.count(5), 6);
        due("setObstacle(107, 0)", x.setObstacle(107, 0), 1);
        due("setObstacle(107, 0)", x.setObstacle(107, 0), 0);
        due("look(107)", x.look(107), 0);
        due("removeDrone(0)", x.removeDrone(0), 0);
        due("setObstacle(0, 1)", x.setObstacle(0, 1), 0);
        due("flightTime(1, 6)", x.flightTime(1, 6), 2);
        due("flightTime(0, 1)", x.flightTime(0, 1), NONE);
    }

    private static void promise4() {
        FormationPlanner x = planned("promise 4");
        due("addDrone(0)", x.addDrone(0), TAKEN);
        due("addDrone(108)", x.addDrone(108), BAD);
        for (int out : OUT) due("addDrone(out)", x.addDrone(out), BAD);
        stands(x, true);
        due("count(5)", x.count(5), 2);
        due("addDrone(3), at a slot", x.addDrone(3), 1);
        stands(x, false);
        obstacles(x, 50);
        due("addDrone(50)", x.addDrone(50), TAKEN);
        drones(x, 107, 36, 72, 71);
        cells(x, 0, 0, 3, 107, 36, 72, 71);
        due("addDrone(108)", x.addDrone(108), BAD);
        due("addDrone(50)", x.addDrone(50), FULL);
        due("addDrone(0)", x.addDrone(0), FULL);
        due("addDrone(1)", x.addDrone(1), FULL);
        cells(x, 0, 0, 3, 107, 36, 72, 71);
    }

    private static void promise5() {
        FormationPlanner x = start("promise 5");
        drones(x, 10, 20, 30, 40, 50, 60);
        due("removeDrone(2)", x.removeDrone(2), 5);
        cells(x, 0, 10, 20, 40, 50, 60);
        due("look(30)", x.look(30), 0);
        due("look(40)", x.look(40), 30);
        due("removeDrone(0)", x.removeDrone(0), 4);
        cells(x, 0, 20, 40, 50, 60);
        due("removeDrone(3)", x.removeDrone(3), 3);
        cells(x, 0, 20, 40, 50);
        due("removeDrone(3)", x.removeDrone(3), NONE);
        for (int out : OUT) due("removeDrone(out)", x.removeDrone(out), NONE);
        cells(x, 0, 20, 40, 50);
        drones(x, 10);
        cells(x, 0, 20, 40, 50, 10);
        x = planned("promise 5, the plan");
        due("addSlot(9)", x.addSlot(9), 1);
        drones(x, 9);
        due("plan()", x.plan(), 3);
        due("removeDrone(1)", x.removeDrone(1), 1);
        stands(x, false);
        // NONE is not an error, so that the plan goes, and the call can be undone.
        x = planned("promise 5, NONE");
        due("removeDrone(1)", x.removeDrone(1), NONE);
        stands(x, false);
        due("count(5)", x.count(5), 3);
        due("undo()", x.undo(), 2);
        cells(x, 0, 0);
    }

    private static void promise6() {
        FormationPlanner x = planned("promise 6");
        due("addSlot(3)", x.addSlot(3), TAKEN);
        due("addSlot(108)", x.addSlot(108), BAD);
        for (int out : OUT) due("addSlot(out)", x.addSlot(out), BAD);
        stands(x, true);
        due("count(5)", x.count(5), 2);
        due("addSlot(0), at a drone", x.addSlot(0), 1);
        stands(x, false);
        obstacles(x, 50);
        due("addSlot(50)", x.addSlot(50), TAKEN);
        slots(x, 107, 36, 72, 71);
        cells(x, 1, 3, 0, 107, 36, 72, 71);
        due("addSlot(108)", x.addSlot(108), BAD);
        due("addSlot(50)", x.addSlot(50), FULL);
        due("addSlot(3)", x.addSlot(3), FULL);
        due("addSlot(1)", x.addSlot(1), FULL);
        cells(x, 1, 3, 0, 107, 36, 72, 71);
    }

    private static void promise7() {
        FormationPlanner x = planned("promise 7");
        due("clearSlots()", x.clearSlots(), 1);
        stands(x, false);
        cells(x, 1);
        due("look(3)", x.look(3), 0);
        due("clearSlots()", x.clearSlots(), 0);
        due("count(5)", x.count(5), 4);
        due("removeDrone(0)", x.removeDrone(0), 0);
        due("plan()", x.plan(), 0);
        due("clearSlots()", x.clearSlots(), 0);
        due("count(7)", x.count(7), 0);
        slots(x, 5, 4, 3, 2, 1, 0);
        due("clearSlots()", x.clearSlots(), 6);
        slots(x, 7);
        cells(x, 1, 7);
    }

    private static void promise8() {
        FormationPlanner x = planned("promise 8");
        for (int out : OUT) {
            due("append(out, 1)", x.append(out, 1), BAD);
            due("append(97, out)", x.append(97, out), BAD);
        }
        due("append(128, 1)", x.append(128, 1), BAD);
        due("append(97, 0)", x.append(97, 0), BAD);
        due("append(97, 61)", x.append(97, 61), BAD);
        due("count(6)", x.count(6), 0);
        due("append(0, 1)", x.append(0, 1), 1);
        due("append(127, 3)", x.append(127, 3), 4);
        due("append(97, 57)", x.append(97, 57), FULL);
        due("count(6)", x.count(6), 4);
        due("append(97, 56)", x.append(97, 56), 60);
        due("append(97, 1)", x.append(97, 1), FULL);
        due("append(97, 60)", x.append(97, 60), FULL);
        due("append(128, 1)", x.append(128, 1), BAD);
        due("append(97, 61)", x.append(97, 61), BAD);
        due("count(6)", x.count(6), 60);
        stands(x, true);
        due("count(5)", x.count(5), 2);
        due("readSlots()", x.readSlots(), -100);
        due("append(97, 60)", x.append(97, 60), 60);
        due("readSlots()", x.readSlots(), -101);
        // The character comes as often as was told, and in its place.
        due("append(99, 1)", x.append(99, 1), 1);
        due("append(50, 1)", x.append(50, 1), 2);
        due("append(43, 2)", x.append(43, 2), 4);
        due("readSlots()", x.readSlots(), 1);
        cells(x, 1, 80);
    }

    private static void promise9() {
        FormationPlanner x = start("promise 9");
        due("a1", read(x, "a1"), 1);
        cells(x, 1, 0);
        due("f6++", read(x, "f6++"), 1);
        cells(x, 1, 107);
        due("a1 b2+ c3++", read(x, "a1 b2+ c3++"), 3);
        cells(x, 1, 0, 43, 86);
        due("f1 e2 d3 c4 b5 a6", read(x, "f1 e2 d3 c4 b5 a6"), 6);
        cells(x, 1, 5, 10, 15, 20, 25, 30);
        due("a1 a1+ a1++", read(x, "a1 a1+ a1++"), 3);
        cells(x, 1, 0, 36, 72);
        String[] wrong = {"", "a", "A1", "1a", " a1", "+", "g1", "`1", "a0", "a7", "a ", "aa", "a1+++", "a1 ", "a1  b1", "a1b1",
            "a1+b1", "a1++b", "a1+ ", "a1 b", "a1 b2+ c3+++", "a1 b2+ c7", "a1 a1 x", "a1,b1", "a1+1", "a11", "a1 +"};
        int[] offsets = {0, 1, 0, 0, 0, 0, 0, 0, 1, 1, 1, 1, 4, 3, 3, 2, 3, 4, 4, 4, 11, 8, 6, 2, 3, 2, 3};
        for (int i = 0; i < wrong.length; i++) {
            due("\"" + wrong[i] + "\"", read(x, wrong[i]), -100 - offsets[i]);
            due("count(6)", x.count(6), 0);
        }
        cells(x, 1, 0, 36, 72);
        due("append(97, 1)", x.append(97, 1), 1);
        due("append(0, 1)", x.append(0, 1), 2);
        due("readSlots()", x.readSlots(), -101);
        due("a1 20 times, a space", read(x, "a1 ".repeat(20)), -160);
        due("a1 20 times, one +", read(x, "a1 ".repeat(19) + "a1+"), FULL);
        due("20 times and a fault", read(x, "a1 ".repeat(19) + "a1 "), -160);
    }

    private static void promise9Errors() {
        FormationPlanner x = planned("promise 9, errors");
        obstacles(x, 7);
        due("plan()", x.plan(), 3);
        int undoable = x.count(5);
        String[] texts = {"a1 b1 c1 d1 e1 f1 a2", "a1 a1 a1 a1 a1 a1 a1", "b2 b2 b2 b2 b2 b2 b2", "a1 b1 c1 d1 e1 f1 a2 ",
            "a1 b1 c1 d1 e1 f1 g", "a1 b1 a1", "a1+ a1+", "b2", "c1 b2", "f6++ a1 b1 c1 d1 f6++", "b2 b2+ x"};
        int[] answers = {FULL, FULL, FULL, -121, -118, TAKEN, TAKEN, TAKEN, TAKEN, TAKEN, -107};
        for (int i = 0; i < texts.length; i++) {
            due("\"" + texts[i] + "\"", read(x, texts[i]), answers[i]);
            due("count(6)", x.count(6), 0);
            stands(x, true);
            cells(x, 1, 3);
            due("count(5)", x.count(5), undoable);
        }
        // A drone may be at a position, and so may an old slot.
        due("a1 d1", read(x, "a1 d1"), 2);
        stands(x, false);
        cells(x, 1, 0, 3);
        due("count(5)", x.count(5), undoable + 1);
        due("look(0)", x.look(0), 110);
        due("d1", read(x, "d1"), 1);
        due("plan()", x.plan(), 3);
        due("d1, the same once more", read(x, "d1"), 1);
        stands(x, false);
        due("append(97, 2)", x.append(97, 2), 2);
        due("undo()", x.undo(), undoable + 2);
        due("count(6)", x.count(6), 2);
    }

    private static void promise10() {
        FormationPlanner x = start("promise 10");
        due("flightTime(0, 0)", x.flightTime(0, 0), 0);
        due("flightTime(0, 107)", x.flightTime(0, 107), 12);
        due("flightTime(107, 0)", x.flightTime(107, 0), 12);
        due("flightTime(5, 6)", x.flightTime(5, 6), 6);
        due("flightTime(35, 36)", x.flightTime(35, 36), 11);
        due("flightTime(0, 108)", x.flightTime(0, 108), BAD);
        due("flightTime(108, 0)", x.flightTime(108, 0), BAD);
        for (int out : OUT) {
            due("flightTime(out, 0)", x.flightTime(out, 0), BAD);
            due("flightTime(0, out)", x.flightTime(0, out), BAD);
        }
        x.setWind(0, 2);
        x.setWind(1, 2);
        x.setWind(2, 2);
        due("flightTime(0, 5), against", x.flightTime(0, 5), 10);
        due("flightTime(5, 0), with", x.flightTime(5, 0), 5);
        x.setWind(2, 0);
        due("flightTime(0, 5), two layers up", x.flightTime(0, 5), 9);
        due("flightTime(0, 4), the same either way", x.flightTime(0, 4), 8);
        due("flightTime(0, 1)", x.flightTime(0, 1), 2);
        obstacles(x, 1, 6, 36);
        due("flightTime(0, 0)", x.flightTime(0, 0), 0);
        due("flightTime(0, 2)", x.flightTime(0, 2), NONE);
        due("flightTime(2, 0)", x.flightTime(2, 0), NONE);
        due("flightTime(0, 1)", x.flightTime(0, 1), NONE);
        due("flightTime(1, 0)", x.flightTime(1, 0), NONE);
        due("flightTime(1, 1)", x.flightTime(1, 1), NONE);
        due("flightTime(1, 2)", x.flightTime(1, 2), NONE);
        due("flightTime(2, 1)", x.flightTime(2, 1), NONE);
        x.setObstacle(36, 0);
        due("flightTime(2, 0), over layer 1", x.flightTime(2, 0), 4);
        due("flightTime(0, 2), over layer 1", x.flightTime(0, 2), 6);
        // Drones are not in the way.
        drones(x, 2);
        due("flightTime(3, 14)", x.flightTime(3, 14), 3);
    }

    private static void promise11() {
        FormationPlanner x = start("promise 11");
        due("assigned(0)", x.assigned(0), NONE);
        drones(x, 0);
        due("assigned(0)", x.assigned(0), MISMATCH);
        due("assigned(1)", x.assigned(1), NONE);
        for (int out : OUT) due("assigned(out)", x.assigned(out), NONE);
        // The greatest time comes first: 1 and 1 rather than 2 and 0.
        drones(x, 1);
        slots(x, 2, 1);
        assignedAre(x, 1, 0);
        due("assigned(2)", x.assigned(2), NONE);
        // With a third drone that needs 2 in any case, both have the same greatest time and the same sum.
        drones(x, 72);
        slots(x, 74);
        assignedAre(x, 0, 1, 2);
        // Then the sum decides.
        x = start("promise 11, the sum");
        drones(x, 0, 3, 72);
        slots(x, 2, 1, 74);
        assignedAre(x, 1, 0, 2);
        x = start("promise 11, least of all");
        drones(x, 3, 9, 0, 6);
        slots(x, 7, 1, 2, 8);
        assignedAre(x, 2, 3, 1, 0);
        x = start("promise 11, no assignment");
        drones(x, 0);
        slots(x, 3);
        obstacles(x, 1, 6, 36);
        due("assigned(0)", x.assigned(0), NO_ASSIGNMENT);
        due("assigned(1)", x.assigned(1), NONE);
        slots(x, 4);
        due("assigned(0)", x.assigned(0), MISMATCH);
        // Only the first drone can fly to the last slot.
        drones(x, 20);
        due("assigned(0)", x.assigned(0), NO_ASSIGNMENT);
        x.clearSlots();
        slots(x, 21, 0);
        assignedAre(x, 1, 0);
        // It is the assignment from the present cells, not that of the plan.
        x = planned("promise 11, present cells");
        due("fly(1)", x.fly(1), 0);
        due("assigned(0)", x.assigned(0), 0);
        stands(x, true);
    }

    private static void promise12() {
        FormationPlanner x = start("promise 12");
        assignments(x, 0, 0, 1, 1);
        for (int out : OUT) due("assignment(out)", x.assignment(out), BAD);
        drones(x, 0, 3, 72);
        due("assignment(4)", x.assignment(4), BAD);
        for (int what = 0; what < 4; what++) due("assignment(" + what + ")", x.assignment(what), MISMATCH);
        slots(x, 2, 1, 74);
        assignments(x, 2, 4, 2, 6);
        due("assignment(4)", x.assignment(4), BAD);
        x = start("promise 12, many");
        drones(x, 0, 1, 2, 3, 4, 5);
        slots(x, 5, 4, 3, 2, 1, 0);
        assignments(x, 0, 0, 1, 720);
        x.clearSlots();
        slots(x, 107, 106, 105, 104, 103, 102);
        // Column to column in 7; 1 column apart in 8: by the least greatest time all stay in their column.
        assignments(x, 7, 42, 1, 720);
        x.removeDrone(0);
        due("assignment(3)", x.assignment(3), MISMATCH);
        due("addDrone(72)", x.addDrone(72), 5);
        // The drones of the columns 1 to 5 and the one above column 0.
        assignments(x, 7, 40, 1, 720);
        x = start("promise 12, no assignment");
        drones(x, 0);
        slots(x, 3);
        obstacles(x, 1, 6, 36);
        for (int what = 0; what < 4; what++) due("assignment(" + what + ")", x.assignment(what), NO_ASSIGNMENT);
        due("assignment(4)", x.assignment(4), BAD);
        drones(x, 20, 22);
        slots(x, 0, 9);
        // The first drone has only the slot at 0; the others have two assignments, both with 4 and 3.
        assignments(x, 4, 7, 2, 2);
        x = planned("promise 12, present cells");
        assignments(x, 3, 3, 1, 1);
        x.fly(2);
        assignments(x, 1, 1, 1, 1);
    }

    private static void promise13() {
        FormationPlanner x = start("promise 13");
        due("plan()", x.plan(), 0);
        due("count(7)", x.count(7), 1);
        due("fly(1)", x.fly(1), 0);
        drones(x, 0);
        due("plan()", x.plan(), MISMATCH);
        due("count(7)", x.count(7), 0);
        slots(x, 14);
        due("plan()", x.plan(), 4);
        flies(x, 0, 0, 1, 2, 8, 14);
        acts(x, 0, 1, 1, 3, 3);
        due("plan(), once more", x.plan(), 4);
        due("count(5)", x.count(5), 3);
        obstacles(x, 1);
        due("plan()", x.plan(), 4);
        // Row, column, row is behind column first, which is not possible; up would be too long.
        flies(x, 0, 0, 6, 7, 8, 14);
        x.setWind(0, 4);
        due("plan()", x.plan(), 6);
        acts(x, 0, 3, 3, 1, 1, 3, 3);
        flies(x, 0, 0, 0, 6, 7, 8, 8, 14);
        obstacles(x, 6, 36);
        due("plan()", x.plan(), NO_ASSIGNMENT);
        due("count(7)", x.count(7), 0);
        // The best assignment: the last drone has the longest way, and is planned first.
        x = start("promise 13, order");
        drones(x, 0, 1, 18);
        slots(x, 1, 3, 36);
        due("plan()", x.plan(), 4);
        assignedAre(x, 0, 1, 2);
        due("flight(2, 3)", x.flight(2, 3), 0);
        due("flight(1, 3)", x.flight(1, 3), 1);
        due("flight(0, 3)", x.flight(0, 3), 2);
        flies(x, 2, 18, 12, 6, 0, 36);
        flies(x, 1, 1, 2, 3);
        flies(x, 0, 0, 1);
    }

    private static void promise13Conflicts() {
        FormationPlanner x = start("promise 13, a drone leaves its slot");
        // Both have the same sum and the third drone the greatest time, so that the first passes the second.
        onlyFree(x, 0, 1, 2, 3, 7, 72, 73, 74, 75);
        drones(x, 0, 1, 72);
        slots(x, 2, 1, 75);
        assignedAre(x, 0, 1, 2);
        due("plan()", x.plan(), 3);
        due("flight(1, 2)", x.flight(1, 2), 0);
        due("flight(1, 3)", x.flight(1, 3), 2);
        flies(x, 0, 0, 1, 2);
        // It must be away at 1, and can be back at 2.
        flies(x, 1, 1, 7, 1);
        acts(x, 1, 3, 4);
        due("flight(1, 0)", x.flight(1, 0), 2);
        flies(x, 2, 72, 73, 74, 75);
        // Without the bay it is stuck: it cannot pass the other one.
        obstacles(x, 7);
        due("plan()", x.plan(), NO_PLAN);
        due("stuck()", x.stuck(), 1);
        // To follow another one is no conflict.
        x = narrow("promise 13, in a row", 0, row(8, 9, 13, 14, 19), row(14, 9, 8), row(8, 13, 14));
        assignedAre(x, 1, 0, 2);
        due("plan()", x.plan(), 1);
        flies(x, 0, 14, 13);
        flies(x, 1, 9, 8);
        flies(x, 2, 8, 14);
        x = narrow("promise 13, in a row to a turn", 1, row(2, 3, 7, 8, 13), row(8, 13, 7), row(7, 3, 8));
        due("plan()", x.plan(), 2);
        flies(x, 0, 8, 2, 3);
        flies(x, 1, 13, 7);
        flies(x, 2, 7, 8);
        // During both ticks of a move against the wind its cell is taken.
        x = narrow("promise 13, first tick", 4, row(2, 8, 9, 13, 14), row(2, 9), row(9, 14));
        due("plan()", x.plan(), NO_PLAN);
        due("stuck()", x.stuck(), 1);
        x = narrow("promise 13, second tick", 2, row(2, 7, 8, 9, 10), row(2, 7), row(2, 10));
        due("plan()", x.plan(), 5);
        flies(x, 0, 2, 8, 8, 9, 9, 10);
        flies(x, 1, 7, 7, 7, 8, 2);
        acts(x, 1, 0, 1, 1, 4);
    }

    /** A way of 62 ticks, of which the slot may be 60 away. */
    private static void promise13Latest() {
        FormationPlanner x = start("promise 13, at 60 at the latest");
        onlyFree(x, 0, 1, 2, 3, 4, 5, 11, 12, 13, 14, 15, 16, 17, 18, 24, 25, 26, 27, 28, 29, 35, 71,
            72, 73, 74, 75, 76, 77, 83, 84, 85, 86, 87, 88, 89, 90, 96, 97, 98, 99, 100, 101, 107);
        x.setWind(0, 2);
        x.setWind(2, 1);
        drones(x, 0);
        slots(x, 72);
        due("flightTime(0, 72)", x.flightTime(0, 72), 62);
        assignments(x, 62, 62, 1, 1);
        due("plan()", x.plan(), NO_PLAN);
        due("stuck()", x.stuck(), 0);
        x.clearSlots();
        slots(x, 73);
        due("plan()", x.plan(), 60);
        due("at(0, 59)", x.at(0, 59), 74);
        due("at(0, 60)", x.at(0, 60), 73);
        due("action(0, 59)", x.action(0, 59), 2);
        due("fly(60)", x.fly(60), 1);
        due("cellOf(0, 0)", x.cellOf(0, 0), 73);
    }

    /** Drones that pass in a corridor of four cells, so that the one planned last is stuck. */
    private static FormationPlanner corridor(String part) {
        FormationPlanner x = start(part);
        obstacles(x, 4, 6, 7, 8, 9, 36, 37, 38, 39);
        return x;
    }

    private static void promise14() {
        FormationPlanner x = corridor("promise 14");
        drones(x, 0, 1, 72);
        slots(x, 3, 2, 75);
        assignedAre(x, 0, 1, 2);
        assignments(x, 3, 7, 2, 2);
        due("stuck()", x.stuck(), NONE);
        due("plan()", x.plan(), NO_PLAN);
        due("stuck()", x.stuck(), 1);
        due("count(7)", x.count(7), 0);
        // Errors and questions change nothing.
        due("fly(1)", x.fly(1), NO_PLAN);
        due("addDrone(0)", x.addDrone(0), TAKEN);
        due("setWind(3, 0)", x.setWind(3, 0), BAD);
        due("readSlots()", x.readSlots(), -100);
        due("append(97, 1)", x.append(97, 1), 1);
        due("greatestWith(0, 0)", x.greatestWith(0, 0), 3);
        due("stuck()", x.stuck(), 1);
        due("setWind(0, 0)", x.setWind(0, 0), 0);
        due("stuck()", x.stuck(), NONE);
        due("plan()", x.plan(), NO_PLAN);
        due("stuck()", x.stuck(), 1);
        due("undo()", x.undo(), 8 - 1);
        due("stuck()", x.stuck(), NONE);
        due("plan()", x.plan(), NO_PLAN);
        due("removeDrone(1)", x.removeDrone(1), 2);
        due("stuck()", x.stuck(), NONE);
        due("plan()", x.plan(), MISMATCH);
        due("stuck()", x.stuck(), NONE);
        // A bay makes it possible; then none is stuck.
        x = corridor("promise 14, with a bay");
        drones(x, 0, 1, 72);
        slots(x, 3, 2, 75);
        due("plan()", x.plan(), NO_PLAN);
        due("setObstacle(7, 0)", x.setObstacle(7, 0), 1);
        due("stuck()", x.stuck(), NONE);
        due("plan()", x.plan() >= 3 ? 1 : 0, 1);
        due("stuck()", x.stuck(), NONE);
        replanned();
    }

    /** A plan that is flown for a tick; then a new one has another assignment, and none is possible. */
    private static void replanned() {
        FormationPlanner x = corridor("promise 14, after flying");
        x.setWind(2, 1);
        drones(x, 0, 1, 73);
        slots(x, 3, 2, 72);
        assignedAre(x, 1, 0, 2);
        due("plan()", x.plan(), 2);
        numbers(x, 2, 2, 0, 2, 2, 2);
        due("fly(1)", x.fly(1), 0);
        cells(x, 0, 1, 2, 73);
        numbers(x, 0, 1, 0, 1, 0, 1);
        numbers(x, 1, 1, 0, 1, 1, 0);
        numbers(x, 2, 1, 0, 2, 2, 2);
        acts(x, 2, 2);
        flies(x, 2, 73, 72);
        due("conflictsWithout()", x.conflictsWithout(), 0);
        // The present cells have another best assignment, but the plan keeps its slots.
        assignedAre(x, 0, 1, 2);
        due("flight(0, 4)", x.flight(0, 4), 1);
        due("plan()", x.plan(), NO_PLAN);
        due("stuck()", x.stuck(), 1);
        stands(x, false);
        cells(x, 0, 1, 2, 73);
        due("fly(1)", x.fly(1), NO_PLAN);
        due("count(4)", x.count(4), 1);
    }

    private static void promise15() {
        FormationPlanner x = planned("promise 15");
        flies(x, 0, 0, 1, 2, 3);
        due("at(0, 61)", x.at(0, 61), BAD);
        for (int out : OUT) {
            due("at(0, out)", x.at(0, out), BAD);
            due("at(out, 0)", x.at(out, 0), NONE);
        }
        due("at(1, 0)", x.at(1, 0), NONE);
        due("at(1, 61)", x.at(1, 61), NONE);
        x.fly(2);
        flies(x, 0, 2, 3);
        x.fly(59);
        flies(x, 0, 3);
        x.setWind(1, 1);
        due("at(0, 0)", x.at(0, 0), NO_PLAN);
        due("at(0, 61)", x.at(0, 61), BAD);
        due("at(1, 0)", x.at(1, 0), NONE);
    }

    private static void promise16() {
        FormationPlanner x = planned("promise 16");
        acts(x, 0, 1, 1, 1);
        due("action(0, 60)", x.action(0, 60), BAD);
        for (int out : OUT) {
            due("action(0, out)", x.action(0, out), BAD);
            due("action(out, 0)", x.action(out, 0), NONE);
        }
        due("action(1, 60)", x.action(1, 60), NONE);
        x.fly(2);
        acts(x, 0, 1);
        x.fly(1);
        acts(x, 0);
        // All actions, two of them against the wind of their layers.
        x = start("promise 16, every action");
        onlyFree(x, 7, 8, 14, 50, 49, 43, 79);
        x.setWind(0, 2);
        x.setWind(1, 3);
        due("action(0, 0)", x.action(0, 0), NONE);
        drones(x, 7);
        slots(x, 79);
        due("action(0, 60)", x.action(0, 60), BAD);
        due("action(0, 0)", x.action(0, 0), NO_PLAN);
        due("plan()", x.plan(), 2);
        acts(x, 0, 5, 5);
        obstacles(x, 43);
        due("plan()", x.plan(), NO_ASSIGNMENT);
        x.setObstacle(43, 0);
        x.removeDrone(0);
        due("setObstacle(49, 0)", x.setObstacle(49, 0), 0);
        due("addDrone(8)", x.addDrone(8), 0);
        due("plan()", x.plan(), 3);
        acts(x, 0, 2, 5, 5);
        x.setObstacle(7, 1);
        due("plan()", x.plan(), 6);
        acts(x, 0, 3, 5, 2, 4, 4, 5);
        flies(x, 0, 8, 14, 50, 49, 49, 43, 79);
        due("fly(4)", x.fly(4), 0);
        acts(x, 0, 4, 5);
        flies(x, 0, 49, 43, 79);
        numbers(x, 0, 2, 0, 3, 0, 0);
    }

    private static void promise17() {
        FormationPlanner x = start("promise 17");
        obstacles(x, 6, 8);
        drones(x, 0, 2);
        slots(x, 14, 12);
        due("flight(0, 0)", x.flight(0, 0), NO_PLAN);
        due("flight(0, 5)", x.flight(0, 5), BAD);
        due("flight(2, 0)", x.flight(2, 0), NONE);
        due("plan()", x.plan(), 5);
        numbers(x, 0, 4, 0, 4, 0, 0);
        numbers(x, 1, 5, 1, 4, 1, 1);
        due("flight(0, 5)", x.flight(0, 5), BAD);
        due("flight(2, 0)", x.flight(2, 0), NONE);
        due("flight(2, 5)", x.flight(2, 5), NONE);
        for (int out : OUT) {
            due("flight(0, out)", x.flight(0, out), BAD);
            due("flight(out, 0)", x.flight(out, 0), NONE);
        }
        x.fly(1);
        numbers(x, 0, 3, 0, 3, 0, 0);
        numbers(x, 1, 4, 0, 4, 1, 1);
        x.fly(3);
        numbers(x, 0, 0, 0, 0, 0, 0);
        numbers(x, 1, 1, 0, 1, 1, 1);
        x.fly(60);
        numbers(x, 1, 0, 0, 0, 1, 1);
    }

    private static void promise18() {
        FormationPlanner x = start("promise 18");
        obstacles(x, 6, 8);
        drones(x, 0, 2);
        slots(x, 14, 12);
        due("explain(1, 0)", x.explain(1, 0), NO_PLAN);
        due("explain(1, 60)", x.explain(1, 60), BAD);
        due("explain(2, 60)", x.explain(2, 60), NONE);
        due("plan()", x.plan(), 5);
        due("explain(1, 0)", x.explain(1, 0), 0);
        for (int time = 1; time < 60; time++) due("explain(1, " + time + ")", x.explain(1, time), NONE);
        for (int time = 0; time < 60; time++) due("explain(0, " + time + ")", x.explain(0, time), NONE);
        due("explain(1, 60)", x.explain(1, 60), BAD);
        for (int out : OUT) {
            due("explain(0, out)", x.explain(0, out), BAD);
            due("explain(out, 0)", x.explain(out, 0), NONE);
        }
        due("explain(2, 0)", x.explain(2, 0), NONE);
        due("explain(2, 60)", x.explain(2, 60), NONE);
        x.fly(1);
        due("explain(1, 0)", x.explain(1, 0), NONE);
    }

    private static void promise18TwoTicks() {
        // The first drone comes into 9 at 2, when the second tick of the move against the wind would end there.
        FormationPlanner x = narrow("promise 18, second tick", 2, row(3, 4, 8, 9, 15), row(4, 8), row(15, 9));
        due("plan()", x.plan(), 3);
        flies(x, 0, 4, 3, 9, 15);
        acts(x, 1, 0, 1, 1);
        explained(x, 1, 0, 0);
        // It is in 8 at 1, but then the move to there has a tick to go: none is met at once.
        x = narrow("promise 18, first tick", 4, row(2, 7, 8, 9, 15), row(7, 2), row(9, 15));
        due("plan()", x.plan(), 4);
        flies(x, 0, 7, 8, 9, 9, 15);
        flies(x, 1, 2, 2, 2, 8, 9);
        explained(x);
        // Each wait begins anew.
        x = narrow("promise 18, two waits", 4, row(3, 8, 9, 10, 15), row(8, 10), row(15, 9));
        due("plan()", x.plan(), 3);
        flies(x, 0, 8, 9, 9, 15);
        flies(x, 1, 10, 10, 10, 9);
        explained(x, 1, 0, 0, 1, 1, 0);
        x.fly(1);
        due("explain(1, 0), a tick later", x.explain(1, 0), 0);
        due("explain(1, 1), a tick later", x.explain(1, 1), NONE);
        // The last drone is in the way too, but was planned later.
        x = narrow("promise 18, planned later", 3, row(1, 6, 7, 8, 9, 14, 42), row(14, 6, 42, 7), row(9, 8, 42, 1));
        due("plan()", x.plan(), 3);
        flies(x, 1, 6, 6, 7, 8);
        flies(x, 3, 7, 7, 1);
        explained(x);
        promise18Exchange();
    }

    private static void promise18Exchange() {
        // The third drone would fly from 7 to 8 in two ticks. By then the fourth, planned first, is in 8, and
        // the first, planned next, goes from 8 to 7 in the second tick: it has the lower number.
        FormationPlanner x = narrow("promise 18, exchange", 2, row(0, 1, 3, 4, 7, 8, 9, 10, 14), row(9, 0, 7, 3), row(10, 0, 8, 14));
        due("plan()", x.plan(), 8);
        flies(x, 3, 3, 9, 8, 14);
        flies(x, 0, 9, 8, 7, 7, 8, 8, 9, 9, 10);
        flies(x, 2, 7, 7, 1, 1, 7, 7, 8);
        numbers(x, 2, 6, 2, 2, 2, 2);
        explained(x, 2, 0, 0, 2, 2, 0);
        due("conflictsWithout()", x.conflictsWithout(), 2);
    }

    private static void promise19() {
        FormationPlanner x = start("promise 19");
        due("conflictsWithout()", x.conflictsWithout(), NO_PLAN);
        due("plan()", x.plan(), 0);
        due("conflictsWithout()", x.conflictsWithout(), 0);
        obstacles(x, 6, 8);
        drones(x, 0, 2);
        slots(x, 14, 12);
        due("conflictsWithout()", x.conflictsWithout(), NO_PLAN);
        due("plan()", x.plan(), 5);
        due("conflictsWithout()", x.conflictsWithout(), 1);
        // Behind the wait the second one is a tick later, which is enough.
        due("fly(1)", x.fly(1), 0);
        due("conflictsWithout()", x.conflictsWithout(), 0);
        due("fly(60)", x.fly(60), 2);
        due("conflictsWithout()", x.conflictsWithout(), 0);
        // One that is at its slot, and stays there, is passed.
        x = start("promise 19, at a slot");
        onlyFree(x, 0, 1, 2, 3, 7, 72, 73, 74, 75);
        drones(x, 0, 1, 72);
        slots(x, 2, 1, 75);
        due("plan()", x.plan(), 3);
        due("conflictsWithout()", x.conflictsWithout(), 1);
        // From 1 to 2 and from 7 to 1 they do not meet.
        due("fly(1)", x.fly(1), 0);
        cells(x, 0, 1, 7, 73);
        due("conflictsWithout()", x.conflictsWithout(), 0);
        // First both are in 8 at 2. A tick later, with a whole move to 8 again, they exchange 8 and 7.
        x = narrow("promise 19, exchange", 2, row(1, 2, 7, 8, 9), row(7, 2), row(2, 9));
        due("plan()", x.plan(), 6);
        flies(x, 0, 7, 7, 8, 2);
        flies(x, 1, 2, 1, 7, 7, 8, 8, 9);
        due("conflictsWithout()", x.conflictsWithout(), 1);
        due("fly(1)", x.fly(1), 0);
        cells(x, 0, 7, 1);
        due("conflictsWithout()", x.conflictsWithout(), 1);
        due("fly(1)", x.fly(1), 0);
        due("conflictsWithout()", x.conflictsWithout(), 0);
        // Of the ways of the second drone the least goes over 13, where the first one comes meanwhile.
        x = narrow("promise 19, the least way", 3, row(7, 8, 13, 14, 19), row(19, 14), row(13, 7));
        due("plan()", x.plan(), 3);
        due("conflictsWithout()", x.conflictsWithout(), 1);
    }

    private static void promise20() {
        FormationPlanner x = start("promise 20");
        due("fly(0)", x.fly(0), BAD);
        due("fly(1)", x.fly(1), NO_PLAN);
        drones(x, 0, 1);
        slots(x, 4, 2);
        assignedAre(x, 1, 0);
        due("fly(1)", x.fly(1), NO_PLAN);
        due("plan()", x.plan(), 3);
        due("fly(61)", x.fly(61), BAD);
        for (int out : OUT) due("fly(out)", x.fly(out), BAD);
        due("fly(0)", x.fly(0), BAD);
        due("count(4)", x.count(4), 0);
        due("count(5)", x.count(5), 4);
        due("fly(2)", x.fly(2), 1);
        cells(x, 0, 2, 3);
        stands(x, true);
        due("fly(1)", x.fly(1), 2);
        cells(x, 0, 2, 4);
        stands(x, true);
        due("fly(60)", x.fly(60), 2);
        due("fly(60)", x.fly(60), 2);
        due("fly(60)", x.fly(60), 2);
        stands(x, true);
        cells(x, 0, 2, 4);
        due("count(4)", x.count(4), 183);
        due("count(5)", x.count(5), 8);
        flies(x, 0, 2);
        // A move against the wind of which only the first tick was flown is made whole again.
        x = start("promise 20, half a move");
        x.setWind(0, 2);
        drones(x, 0);
        slots(x, 1);
        due("plan()", x.plan(), 2);
        flies(x, 0, 0, 0, 1);
        due("fly(1)", x.fly(1), 0);
        cells(x, 0, 0);
        flies(x, 0, 0, 1);
        due("flightTime(0, 1)", x.flightTime(0, 1), 2);
        numbers(x, 0, 1, 0, 2, 0, 0);
        due("plan()", x.plan(), 2);
        due("fly(2)", x.fly(2), 1);
        cells(x, 0, 1);
        due("count(4)", x.count(4), 3);
    }

    private static void promise21() {
        FormationPlanner x = start("promise 21");
        due("greatestWith(0, 1)", x.greatestWith(0, 1), 0);
        due("greatestWith(3, 1)", x.greatestWith(3, 1), BAD);
        due("greatestWith(0, 5)", x.greatestWith(0, 5), BAD);
        for (int out : OUT) {
            due("greatestWith(out, 0)", x.greatestWith(out, 0), BAD);
            due("greatestWith(0, out)", x.greatestWith(0, out), BAD);
        }
        drones(x, 0);
        due("greatestWith(0, 1)", x.greatestWith(0, 1), MISMATCH);
        due("greatestWith(0, 5)", x.greatestWith(0, 5), BAD);
        slots(x, 1);
        due("greatestWith(0, 2)", x.greatestWith(0, 2), 2);
        int[] with = {1, 1, 2, 1, 1};
        for (int wind = 0; wind < 5; wind++) due("greatestWith(0, " + wind + ")", x.greatestWith(0, wind), with[wind]);
        due("plan()", x.plan(), 1);
        due("greatestWith(0, 2)", x.greatestWith(0, 2), 2);
        stands(x, true);
        due("count(5)", x.count(5), 2);
        due("flightTime(0, 1), unchanged", x.flightTime(0, 1), 1);
        due("assignment(0), unchanged", x.assignment(0), 1);
        due("setWind(0, 2)", x.setWind(0, 2), 0);
        due("greatestWith(0, 0)", x.greatestWith(0, 0), 1);
        due("greatestWith(1, 2)", x.greatestWith(1, 2), 2);
        due("setWind(0, 2)", x.setWind(0, 2), 2);
        // The assignment may be another one with the wind.
        x.setWind(0, 0);
        x.clearSlots();
        drones(x, 30);
        slots(x, 5, 31);
        due("assignment(0)", x.assignment(0), 5);
        due("greatestWith(0, 2)", x.greatestWith(0, 2), 7);
        obstacles(x, 1, 6, 36);
        due("greatestWith(0, 2)", x.greatestWith(0, 2), NO_ASSIGNMENT);
        due("greatestWith(2, 4)", x.greatestWith(2, 4), NO_ASSIGNMENT);
    }

    private static void promise22() {
        FormationPlanner x = start("promise 22");
        drones(x, 5, 107);
        slots(x, 0, 9, 36);
        cells(x, 0, 5, 107);
        cells(x, 1, 0, 9, 36);
        due("cellOf(2, 0)", x.cellOf(2, 0), BAD);
        due("cellOf(2, 9)", x.cellOf(2, 9), BAD);
        for (int out : OUT) {
            due("cellOf(out, 0)", x.cellOf(out, 0), BAD);
            due("cellOf(out, out)", x.cellOf(out, out), BAD);
            due("cellOf(0, out)", x.cellOf(0, out), NONE);
            due("cellOf(1, out)", x.cellOf(1, out), NONE);
        }
    }

    private static void promise23() {
        FormationPlanner x = start("promise 23");
        drones(x, 10, 11, 12, 13, 14, 15);
        slots(x, 9, 10, 11, 17, 16, 15);
        obstacles(x, 8);
        int[] seen = {1, 100, 210, 320, 30, 40, 50, 660, 500, 400};
        for (int i = 0; i < seen.length; i++) due("look(" + (8 + i) + ")", x.look(8 + i), seen[i]);
        due("look(7)", x.look(7), 0);
        due("look(0)", x.look(0), 0);
        due("look(107)", x.look(107), 0);
        due("look(108)", x.look(108), BAD);
        for (int out : OUT) due("look(out)", x.look(out), BAD);
    }

    private static void promise24() {
        FormationPlanner x = start("promise 24");
        due("count(8)", x.count(8), BAD);
        for (int out : OUT) due("count(out)", x.count(out), BAD);
        drones(x, 0, 1, 2);
        slots(x, 2, 3, 1);
        obstacles(x, 8, 9);
        x.append(97, 7);
        int[] counts = {3, 3, 2, 2, 0, 8, 7, 0};
        for (int what = 0; what < 8; what++) due("count(" + what + ")", x.count(what), counts[what]);
        due("plan()", x.plan(), 1);
        due("count(7)", x.count(7), 1);
        due("fly(5)", x.fly(5), 3);
        due("fly(60)", x.fly(60), 3);
        int[] flown = {3, 3, 2, 3, 65, 8, 7, 1};
        for (int what = 0; what < 8; what++) due("count(" + what + ")", x.count(what), flown[what]);
        due("undo()", x.undo(), 7);
        due("count(4)", x.count(4), 5);
        due("count(3)", x.count(3), 3);
        due("undo()", x.undo(), 6);
        due("count(4)", x.count(4), 0);
        due("count(3)", x.count(3), 2);
        due("count(5)", x.count(5), 6);
        due("count(7)", x.count(7), 0);
        due("plan()", x.plan(), 1);
        due("fly(60)", x.fly(60), 3);
        due("setWind(0, 1)", x.setWind(0, 1), 0);
        due("count(4)", x.count(4), 60);
        due("undo()", x.undo(), 7);
        due("count(4)", x.count(4), 60);
    }

    private static void promise25() {
        FormationPlanner x = start("promise 25");
        due("undo()", x.undo(), NONE);
        due("setWind(1, 3)", x.setWind(1, 3), 0);
        due("setObstacle(9, 1)", x.setObstacle(9, 1), 0);
        drones(x, 0, 1);
        due("removeDrone(0)", x.removeDrone(0), 1);
        slots(x, 4);
        due("a1 b1+", read(x, "a1 b1+"), 2);
        due("clearSlots()", x.clearSlots(), 2);
        due("count(5)", x.count(5), 8);
        due("undo clearSlots", x.undo(), 7);
        cells(x, 1, 0, 37);
        due("undo readSlots", x.undo(), 6);
        due("count(6)", x.count(6), 0);
        cells(x, 1, 4);
        due("undo addSlot", x.undo(), 5);
        cells(x, 1);
        due("undo removeDrone", x.undo(), 4);
        cells(x, 0, 0, 1);
        due("undo addDrone", x.undo(), 3);
        cells(x, 0, 0);
        due("undo addDrone", x.undo(), 2);
        cells(x, 0);
        due("undo setObstacle", x.undo(), 1);
        due("look(9)", x.look(9), 0);
        due("undo setWind", x.undo(), 0);
        due("setWind(1, 0)", x.setWind(1, 0), 0);
        due("undo()", x.undo(), 0);
        due("undo()", x.undo(), NONE);
        // Only 8, and the oldest are forgotten.
        for (int cell = 0; cell < 20; cell++) due("setObstacle", x.setObstacle(cell, 1), 0);
        for (int left = 7; left >= 0; left--) due("undo()", x.undo(), left);
        due("undo()", x.undo(), NONE);
        due("count(2)", x.count(2), 12);
        due("look(11)", x.look(11), 1);
        due("look(12)", x.look(12), 0);
        promise25Plan();
    }

    private static void promise25Plan() {
        FormationPlanner x = planned("promise 25, the plan");
        due("fly(1)", x.fly(1), 0);
        due("fly(1)", x.fly(1), 0);
        due("append(97, 5)", x.append(97, 5), 5);
        due("undo()", x.undo(), 3);
        cells(x, 0, 1);
        due("count(4)", x.count(4), 1);
        due("count(6)", x.count(6), 5);
        stands(x, false);
        due("plan()", x.plan(), 2);
        due("count(5)", x.count(5), 3);
        // What was undone is not undone again, and errors, questions and plans do not count.
        due("addDrone(1)", x.addDrone(1), TAKEN);
        due("undo()", x.undo(), 2);
        cells(x, 0, 0);
        due("count(4)", x.count(4), 0);
        stands(x, false);
        due("undo()", x.undo(), 1);
        cells(x, 1);
        due("undo()", x.undo(), 0);
        cells(x, 0);
        due("plan()", x.plan(), 0);
        // NONE is not an error, so that the plan goes then too.
        due("undo()", x.undo(), NONE);
        due("count(7)", x.count(7), 0);
        // Calls that make nothing different can be undone as well.
        due("clearSlots()", x.clearSlots(), 0);
        due("setWind(0, 0)", x.setWind(0, 0), 0);
        due("setObstacle(0, 0)", x.setObstacle(0, 0), 0);
        due("count(5)", x.count(5), 3);
        due("undo()", x.undo(), 2);
    }
}
