import java.util.function.Supplier;
import java.util.function.ToIntFunction;

/** What the tests with answers worked out by hand have in common. */
abstract class Calls {
    static final int NONE = -1, BAD = -2, FULL = -3, TAKEN = -4, MISMATCH = -5, NO_ASSIGNMENT = -6, NO_PLAN = -7;
    static final int[] OUT = {-1, Integer.MIN_VALUE, Integer.MAX_VALUE};
    static final Checks checks = new Checks();

    static void due(String call, int got, int want) { checks.due(call, got, want); }

    static FormationPlanner start(String part) {
        checks.part(part);
        return new FormationPlanner();
    }

    static void drones(FormationPlanner x, int... cells) {
        for (int cell : cells) due("addDrone(" + cell + ")", x.addDrone(cell), x.count(0) - 1);
    }

    static void slots(FormationPlanner x, int... cells) {
        for (int cell : cells) due("addSlot(" + cell + ")", x.addSlot(cell), x.count(1) - 1);
    }

    static void obstacles(FormationPlanner x, int... cells) {
        for (int cell : cells) due("setObstacle(" + cell + ", 1)", x.setObstacle(cell, 1), 0);
    }

    /** Leaves only these cells free. */
    static void onlyFree(FormationPlanner x, int... cells) {
        for (int cell = 0; cell < 108; cell++) {
            boolean free = false;
            for (int kept : cells) free |= kept == cell;
            if (!free) x.setObstacle(cell, 1);
        }
        due("obstacles", x.count(2), 108 - cells.length);
    }

    static int read(FormationPlanner x, String text) {
        for (int i = 0; i < text.length(); i++) due("append", x.append(text.charAt(i), 1), i + 1);
        return x.readSlots();
    }

    static void cells(FormationPlanner x, int what, int... cells) {
        for (int i = 0; i < cells.length; i++) due("cellOf(" + what + ", " + i + ")", x.cellOf(what, i), cells[i]);
        due("cellOf(" + what + ", " + cells.length + ")", x.cellOf(what, cells.length), NONE);
        due("count(" + what + ")", x.count(what), cells.length);
    }

    /** The cells from the present time on; behind them the last one stays. An object has but 512 calls. */
    static void flies(FormationPlanner x, int drone, int... cells) {
        for (int t = 0; t <= 60; t += t <= cells.length ? 1 : 5) {
            due("at(" + drone + ", " + t + ")", x.at(drone, t), cells[Math.min(t, cells.length - 1)]);
        }
        due("at(" + drone + ", 60)", x.at(drone, 60), cells[cells.length - 1]);
    }

    static void acts(FormationPlanner x, int drone, int... actions) {
        for (int t = 0; t < 60; t += t <= actions.length ? 1 : 5) {
            due("action(" + drone + ", " + t + ")", x.action(drone, t), t < actions.length ? actions[t] : 0);
        }
        due("action(" + drone + ", 59)", x.action(drone, 59), 0);
    }

    static void numbers(FormationPlanner x, int drone, int... numbers) {
        for (int what = 0; what < 5; what++) due("flight(" + drone + ", " + what + ")", x.flight(drone, what), numbers[what]);
    }

    static void assignments(FormationPlanner x, int... numbers) {
        for (int what = 0; what < 4; what++) due("assignment(" + what + ")", x.assignment(what), numbers[what]);
    }

    /** The same for all drones as by slots. */
    static void assignedAre(FormationPlanner x, int... slots) {
        for (int drone = 0; drone < slots.length; drone++) due("assigned(" + drone + ")", x.assigned(drone), slots[drone]);
    }

    /** A drone at 0 with a slot at 3, and its plan. */
    static FormationPlanner planned(String part) {
        FormationPlanner x = start(part);
        drones(x, 0);
        slots(x, 3);
        due("plan()", x.plan(), 3);
        return x;
    }

    static void stands(FormationPlanner x, boolean stands) {
        due("count(7)", x.count(7), stands ? 1 : 0);
        due("at(0, 0)", x.at(0, 0) == NO_PLAN ? 0 : 1, stands ? 1 : 0);
    }

    /** Only these cells are free, with this wind in layer 0. */
    static FormationPlanner narrow(String part, int wind, int[] free, int[] drones, int[] slots) {
        FormationPlanner x = start(part);
        onlyFree(x, free);
        x.setWind(0, wind);
        drones(x, drones);
        slots(x, slots);
        return x;
    }

    static int[] row(int... numbers) { return numbers; }

    /** All explanations that are not NONE: drone, time, other drone. */
    static void explained(FormationPlanner x, int... triples) {
        for (int drone = 0; drone < x.count(0); drone++) {
            for (int time = 0; time < 60; time++) {
                int want = NONE;
                for (int i = 0; i < triples.length; i += 3) {
                    if (triples[i] == drone && triples[i + 1] == time) want = triples[i + 2];
                }
                due("explain(" + drone + ", " + time + ")", x.explain(drone, time), want);
            }
        }
    }

    /** A call with an argument that is varied. */
    interface Asked { int answer(FormationPlanner x, int argument); }

    /** All that can be seen of a planner without changing it, but for the length of its text. */
    static String seen(FormationPlanner x) {
        StringBuilder seen = new StringBuilder();
        for (int what = 0; what < 8; what++) if (what != 6) seen.append(x.count(what)).append(' ');
        for (int cell = 0; cell < 108; cell++) seen.append(x.look(cell)).append(' ');
        for (int layer = 0; layer < 3; layer++) {
            for (int step : new int[] {1, -1, 6, -6}) seen.append(x.flightTime(36 * layer + 14, 36 * layer + 14 + step)).append(' ');
        }
        for (int drone = 0; drone < 6; drone++) {
            seen.append(x.at(drone, 1)).append(' ').append(x.action(drone, 0)).append(' ').append(x.flight(drone, 0)).append(' ');
        }
        return seen.append(x.stuck()).append(' ').append(x.fly(0)).toString();
    }

    static void dueText(String call, String got, String want) {
        due(call, got.equals(want) ? 1 : 0, 1);
        if (!got.equals(want)) System.out.println("  " + got + "\n  " + want);
    }

    /** A call that changes nothing but perhaps the text, also nothing that can be undone. */
    static void changesNothing(String call, Supplier<FormationPlanner> made, ToIntFunction<FormationPlanner> calls, int answer) {
        FormationPlanner x = made.get(), twin = made.get();
        due(call, calls.applyAsInt(x), answer);
        dueText(call + " changes nothing", seen(x), seen(twin));
        due("undo() behind " + call, x.undo(), twin.undo());
        dueText(call + " changes nothing that can be undone", seen(x), seen(twin));
    }

    /** Such a call that leaves the text alone too. */
    static void refused(String call, Supplier<FormationPlanner> made, ToIntFunction<FormationPlanner> calls, int answer) {
        changesNothing(call, made, calls, answer);
        FormationPlanner x = made.get();
        int length = x.count(6);
        calls.applyAsInt(x);
        due("the text behind " + call, x.count(6), length);
    }
}
