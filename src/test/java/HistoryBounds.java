import java.util.ArrayList;
import java.util.List;
import java.util.function.ToIntFunction;

/** The sentences of the terms "HISTORY" and "ERRORS", and of promises 14 to 16. */
final class HistoryBounds extends Bounds {
    private static final String HISTORY = "HISTORY";
    private static final String ERRORS = "ERRORS";

    private HistoryBounds() {
    }

    static void run() {
        fourStates();
        actsRecord();
        stateAndSnapshot();
        whatIsNoPartOfAState();
        errorsByConstants();
        orderOfChecks();
        refusedCallsChangeNothing();
        latestStopMayChange();
        promise14();
        promise15();
        promise16();
    }

    /** Passes 1 hour, then 2, and so on; so each state has an hour of its own. */
    private static LampRacks afterActs(int acts) {
        LampRacks racks = new LampRacks();
        for (int act = 1; act <= acts; act++) {
            racks.pass(act);
        }
        return racks;
    }

    private static void fourStates() {
        sentence(HISTORY, "A history of at most 4 states is kept;");
        for (int acts = 0; acts <= 6; acts++) {
            due("states after " + acts + " acts", afterActs(acts).count(10), Math.min(4, acts));
        }

        sentence(HISTORY, "when one more is recorded, the oldest one is dropped;");
        LampRacks four = afterActs(4);
        int[] hoursOfFour = {6, 3, 1, 0};
        for (int left = 3; left >= 0; left--) {
            due("undo() of 4", four.undo(), left);
            due("hour", four.count(0), hoursOfFour[3 - left]);
        }
        for (int acts = 5; acts <= 9; acts++) {
            LampRacks racks = afterActs(acts);
            int hour = acts * (acts + 1) / 2;
            for (int left = 3; left >= 0; left--) {
                due("undo() after " + acts + " acts", racks.undo(), left);
                hour -= acts - 3 + left;
                due("hour", racks.count(0), hour);
            }
            due("the older ones are dropped", racks.undo(), NONE);
            due("hour", racks.count(0), hour);
        }

        sentence(HISTORY, "undo() removes and restores the latest one.");
        LampRacks racks = afterActs(3);
        racks.undo();
        due("hour", racks.count(0), 3);
        due("states", racks.count(10), 2);
        racks.pass(10);
        racks.undo();
        due("hour, as the removed one does not come back", racks.count(0), 3);
        racks.undo();
        due("hour", racks.count(0), 1);
        due("states", racks.count(10), 1);
    }

    private static void actsRecord() {
        sentence(HISTORY, "Each call of a method that is described as an act, and returns no error and not NONE, "
                + "records the state that was before it.");
        actDue(racks -> racks.setBatch(0, 21, 0));
        actDue(racks -> racks.put(0, 1, 0));
        actDue(racks -> racks.takeOut(0, 0));
        actDue(racks -> racks.swap(0, 0, 2, 7));
        actDue(racks -> racks.setVolts(0, 231));
        actDue(racks -> racks.setSteps(0, 3, 3));
        actDue(racks -> racks.set(0, 231));
        actDue(racks -> racks.set(1, 11));
        actDue(racks -> racks.pass(1));
        actDue(racks -> performThenRetype(racks, ".1"));
        actDue(racks -> racks.restore());
        LampRacks noActs = inUse();
        Check.performText(noActs, "t01;x");
        Check.performText(noActs, "t01;p00:0");
        noActs.keep();
        Everything.told(noActs);
        due("states after what is no act", noActs.count(10), 3);
        LampRacks refused = inUse();
        for (ToIntFunction<LampRacks> call : refusedCalls()) {
            call.applyAsInt(refused);
            due("states after what is refused", refused.count(10), 3);
        }
    }

    private static void stateAndSnapshot() {
        sentence(HISTORY, "There is one snapshot, empty at first.");
        LampRacks racks = new LampRacks();
        due("restore()", racks.restore(), NONE);
        racks.pass(5);
        due("restore()", racks.restore(), NONE);
        racks.keep();
        racks.pass(5);
        racks.keep();
        racks.pass(5);
        racks.restore();
        due("hour of the later one", racks.count(0), 10);
        racks.pass(5);
        racks.restore();
        due("there is no earlier one", racks.count(0), 10);
    }

    private static void whatIsNoPartOfAState() {
        sentence(HISTORY, "A state is everything but the text, the history, the snapshot and the latest stop.");
        LampRacks everything = inUse();
        String before = Everything.told(everything);
        Check.performText(everything, "p07:1;t03;v0:7;v2:8;s0:4+4;s1:0+0;.99");
        Check.typeText(everything, ".1;p00:0");
        everything.undo();
        same("everything but these", Everything.told(everything), before);
        LampRacks kept = inUse();
        kept.keep();
        kept.undo();
        kept.undo();
        kept.put(2, 2, 5);
        due("another lamp 0", kept.lamp(0, 0), 5);
        kept.restore();
        same("everything but these, kept", Everything.told(kept), before);
        LampRacks text = new LampRacks();
        text.pass(1);
        text.keep();
        text.type('t');
        text.undo();
        due("undo() leaves the text", text.count(11), 1);
        text.restore();
        due("restore() leaves the text", text.count(11), 1);
        LampRacks history = afterActs(3);
        history.keep();
        history.undo();
        history.undo();
        history.restore();
        due("restore() leaves the history, and adds to it", history.count(10), 2);
        LampRacks snapshot = afterActs(2);
        snapshot.keep();
        snapshot.undo();
        snapshot.undo();
        due("undo() leaves the snapshot", snapshot.restore(), 0);
        due("hour of the snapshot", snapshot.count(0), 3);
        LampRacks stop = inUse();
        stop.undo();
        stop.restore();
        due("undo() and restore() leave the stop", stop.stopped(0), 1);
    }

    private static void errorsByConstants() {
        sentence(ERRORS, "Errors are reported by the constants below.");
        for (ToIntFunction<LampRacks> call : refusedCalls()) {
            int answer = call.applyAsInt(inUse());
            due(answer + " is one of them", answer >= LampRacks.NONE && answer <= LampRacks.UNKNOWN ? 1 : 0, 1);
        }

        sentence(ERRORS, "The constants: `UNKNOWN = -1001`: There is no such batch, lamp, rack, place or setting.");
        due("UNKNOWN", LampRacks.UNKNOWN, -1001);
        due("no such batch", new LampRacks().batch(6, 0), LampRacks.UNKNOWN);
        due("no such lamp", new LampRacks().lamp(0, 0), LampRacks.UNKNOWN);
        due("no such rack", new LampRacks().rack(3, 0), LampRacks.UNKNOWN);
        due("no such place", new LampRacks().at(0, 8), LampRacks.UNKNOWN);
        due("no such setting", new LampRacks().set(2, 100), LampRacks.UNKNOWN);

        sentence(ERRORS, "`BAD_VALUE = -1002`: Another argument is out of range.");
        due("BAD_VALUE", LampRacks.BAD_VALUE, -1002);
        due("out of range", new LampRacks().pass(0), LampRacks.BAD_VALUE);

        sentence(ERRORS, "`FULL = -1003`: There is no more room.");
        due("FULL", LampRacks.FULL, -1003);
        due("no more room", withLamps(60).put(0, 0, 0), LampRacks.FULL);

        sentence(ERRORS, "`NOT_POSSIBLE = -1004`: This is not possible.");
        due("NOT_POSSIBLE", LampRacks.NOT_POSSIBLE, -1004);
        due("not possible", inUse().put(0, 0, 0), LampRacks.NOT_POSSIBLE);

        sentence(ERRORS, "`NONE = -1005`: There is no such thing; not an error.");
        due("NONE", LampRacks.NONE, -1005);
        due("no such thing", new LampRacks().undo(), LampRacks.NONE);
    }

    private static void orderOfChecks() {
        sentence(ERRORS, "Where several errors can apply, the order of the @return line is the order of the checks.");
        LampRacks racks = inUse();
        due("setBatch: UNKNOWN, BAD_VALUE", racks.setBatch(6, 9, 91), UNKNOWN);
        due("put: UNKNOWN, NOT_POSSIBLE", racks.put(0, 0, 6), UNKNOWN);
        due("setVolts: UNKNOWN, BAD_VALUE", racks.setVolts(3, 301), UNKNOWN);
        due("setSteps: UNKNOWN, BAD_VALUE", racks.setSteps(3, 100, 51), UNKNOWN);
        due("set: UNKNOWN, BAD_VALUE", racks.set(2, 0), UNKNOWN);
        due("lamp: UNKNOWN, BAD_VALUE", racks.lamp(4, 10), UNKNOWN);
        due("rack: UNKNOWN, BAD_VALUE", racks.rack(3, 8), UNKNOWN);
        due("batch: UNKNOWN, BAD_VALUE", racks.batch(6, 7), UNKNOWN);
        due("lasted: UNKNOWN, BAD_VALUE", racks.lasted(6, -1), UNKNOWN);
        due("lasts: UNKNOWN, BAD_VALUE", racks.lasts(4, 0), UNKNOWN);
        due("lasts: BAD_VALUE, NOT_POSSIBLE", racks.lasts(0, 0), BAD_VALUE);
        due("perform: the fault, NOT_POSSIBLE", Check.performText(racks, "p00:0;x"), -1106);
        LampRacks full = withLamps(59);
        full.put(0, 0, 0);
        due("put: UNKNOWN, FULL", full.put(0, 8, 0), UNKNOWN);
        due("put: NOT_POSSIBLE, FULL", full.put(0, 0, 0), NOT_POSSIBLE);
        LampRacks late = atHour(99999);
        due("pass: BAD_VALUE, FULL", late.pass(1000), BAD_VALUE);
        due("pass: BAD_VALUE, FULL", late.pass(Integer.MAX_VALUE), BAD_VALUE);

        sentence(ERRORS, "NONE is no error; it is returned only if no error applies.");
        due("no stop by NONE", Check.performText(new LampRacks(), "t00;v0:230"), 2);
        due("setBatch: spread bad, life so already", new LampRacks().setBatch(0, 1000, 91), BAD_VALUE);
        due("setBatch: life bad, spread so already", new LampRacks().setBatch(0, 9, 0), BAD_VALUE);
        due("takeOut: no lamp, and no place", new LampRacks().takeOut(0, 8), UNKNOWN);
        due("swap: no lamps, and no place", new LampRacks().swap(0, 0, 0, 8), UNKNOWN);
        due("swap: one place, which there is not", new LampRacks().swap(3, 0, 3, 0), UNKNOWN);
        due("stopped: nothing yet, and no such number", new LampRacks().stopped(2), BAD_VALUE);
        due("at: no lamp, and no place", new LampRacks().at(-1, 0), UNKNOWN);
        due("batch: no middle life, and no batch", new LampRacks().batch(6, 5), UNKNOWN);
        due("ended: none, and no rank", new LampRacks().ended(-1), BAD_VALUE);
        due("next: none, and no such number", new LampRacks().next(2), BAD_VALUE);
    }

    /** Calls on what inUse() makes, each of which answers by an error or NONE. */
    private static List<ToIntFunction<LampRacks>> refusedCalls() {
        List<ToIntFunction<LampRacks>> calls = new ArrayList<>();
        calls.add(racks -> racks.setBatch(-1, 30, 1));
        calls.add(racks -> racks.setBatch(1, 30, 91));
        calls.add(racks -> racks.setBatch(1, 10000, 9));
        calls.add(racks -> racks.setBatch(0, 20, 0));
        calls.add(racks -> racks.put(3, 0, 0));
        calls.add(racks -> racks.put(0, 0, 1));
        calls.add(racks -> racks.takeOut(0, -1));
        calls.add(racks -> racks.takeOut(0, 1));
        calls.add(racks -> racks.swap(0, 0, 3, 0));
        calls.add(racks -> racks.swap(0, 0, 0, 0));
        calls.add(racks -> racks.swap(2, 0, 2, 1));
        calls.add(racks -> racks.setVolts(3, 0));
        calls.add(racks -> racks.setVolts(0, 301));
        calls.add(racks -> racks.setVolts(0, 230));
        calls.add(racks -> racks.setSteps(-1, 1, 1));
        calls.add(racks -> racks.setSteps(1, 100, 1));
        calls.add(racks -> racks.setSteps(1, 1, 51));
        calls.add(racks -> racks.set(2, 100));
        calls.add(racks -> racks.set(0, 99));
        calls.add(racks -> racks.set(1, 101));
        calls.add(racks -> racks.set(0, 230));
        calls.add(racks -> racks.set(1, 10));
        calls.add(racks -> racks.pass(0));
        calls.add(racks -> racks.pass(1000));
        calls.add(racks -> racks.stopped(2));
        calls.add(racks -> racks.lamp(4, 0));
        calls.add(racks -> racks.rack(0, 8));
        calls.add(racks -> racks.at(1, 0));
        calls.add(racks -> racks.batch(5, 5));
        calls.add(racks -> racks.lasted(0, 100000));
        calls.add(racks -> racks.ended(1));
        calls.add(racks -> racks.lasts(0, 230));
        calls.add(racks -> racks.reason(4));
        calls.add(racks -> racks.next(2));
        calls.add(racks -> racks.count(12));
        return calls;
    }

    private static void refusedCallsChangeNothing() {
        sentence(ERRORS, "A call that returns an error or NONE changes nothing");
        for (ToIntFunction<LampRacks> call : refusedCalls()) {
            int answer = call.applyAsInt(inUse());
            due("the call is refused", answer < 0 ? 1 : 0, 1);
            refusedDue(answer, call);
        }
        refusedDue(-1102, racks -> performThenRetype(racks, "t0"));
        refusedDue(NOT_POSSIBLE, racks -> performThenRetype(racks, ".9;p00:0"));
        refusedDue(FULL, () -> withLamps(60), racks -> racks.put(0, 0, 0));
        refusedDue(FULL, () -> atHour(99999), racks -> racks.pass(1));
        refusedDue(NONE, LampRacks::new, racks -> racks.undo());
        refusedDue(NONE, () -> afterActs(4), racks -> racks.restore());
    }

    private static void latestStopMayChange() {
        sentence(ERRORS, "(but for the latest stop of perform()).");
        LampRacks racks = inUse();
        Check.performText(racks, "t01;t02;p14:1");
        due("stopped(0)", racks.stopped(0), 2);
        for (ToIntFunction<LampRacks> call : refusedCalls()) {
            call.applyAsInt(racks);
            due("stopped(0) after another refused call", racks.stopped(0), 2);
            due("stopped(1) after another refused call", racks.stopped(1), NOT_POSSIBLE);
        }
    }

    private static void promise14() {
        sentence("Promise 14", "`int undo()`: Removes and restores the latest state of the history.");
        LampRacks racks = inUse();
        racks.put(2, 2, 2);
        racks.setVolts(2, 222);
        racks.undo();
        due("volts", racks.rack(2, 0), 0);
        due("lamp", racks.at(2, 2), 4);
        racks.undo();
        due("lamp", racks.at(2, 2), NONE);
        due("hour", racks.count(0), 23);
        racks.undo();
        due("hour", racks.count(0), 0);
        due("dead", racks.count(4), 0);

        sentence("Promise 14", "Returns the number of states that are left;");
        for (int acts = 1; acts <= 5; acts++) {
            LampRacks some = afterActs(acts);
            for (int left = Math.min(4, acts) - 1; left >= 0; left--) {
                due("undo() after " + acts + " acts", some.undo(), left);
                due("states", some.count(10), left);
            }
        }

        sentence("Promise 14", "NONE if the history is empty.");
        due("of a new object", new LampRacks().undo(), NONE);
        LampRacks one = afterActs(1);
        one.undo();
        due("when all is undone", one.undo(), NONE);
        due("undo() is no act", one.count(10), 0);
        LampRacks refused = new LampRacks();
        refused.takeOut(0, 0);
        refused.pass(0);
        due("after what was refused", refused.undo(), NONE);
        refusedDue(NONE, LampRacks::new, empty -> empty.undo());
    }

    private static void promise15() {
        sentence("Promise 15", "`int keep()`: Takes a snapshot of the state, in place of the one that was.");
        LampRacks racks = inUse();
        String before = Everything.told(racks);
        racks.keep();
        same("keep() changes nothing", Everything.told(racks), before);
        racks.takeOut(0, 0);
        racks.restore();
        due("hour of the later snapshot", racks.count(0), 23);
        due("lamp", racks.at(0, 0), 0);
        LampRacks undone = afterActs(2);
        undone.keep();
        undone.undo();
        due("keep() is no act", undone.count(0), 1);

        sentence("Promise 15", "Returns how many lamps were put in.");
        due("none", new LampRacks().keep(), 0);
        due("4, of which one is dead and one is out", inUse().keep(), 4);
        due("60", withLamps(60).keep(), 60);
        LampRacks two = new LampRacks();
        two.put(0, 0, 0);
        two.put(0, 1, 0);
        two.undo();
        due("one is undone", two.keep(), 1);
    }

    private static void promise16() {
        sentence("Promise 16", "`int restore()`: Restores the state of the snapshot, which stays.");
        LampRacks racks = inUse();
        racks.restore();
        due("hour", racks.count(0), 0);
        due("lamp that was out then, too", racks.at(2, 5), NONE);
        due("none dead", racks.count(4), 0);
        racks.setVolts(2, 100);
        racks.pass(9);
        due("again", racks.restore(), 4);
        due("hour", racks.count(0), 0);
        due("volts", racks.rack(2, 0), 0);
        racks.undo();
        due("hour", racks.count(0), 9);

        sentence("Promise 16", "This is an act.");
        actDue(used -> used.restore());
        LampRacks same = new LampRacks();
        same.keep();
        due("of the state that is", same.restore(), 0);
        due("states", same.count(10), 1);

        sentence("Promise 16", "Returns how many lamps were put in then;");
        LampRacks then = new LampRacks();
        then.keep();
        then.put(0, 0, 0);
        due("none", then.restore(), 0);
        LampRacks full = withLamps(60);
        full.keep();
        full.undo();
        full.undo();
        due("60", full.restore(), 60);

        sentence("Promise 16", "NONE if there is no snapshot.");
        due("of a new object", new LampRacks().restore(), NONE);
        refusedDue(NONE, () -> afterActs(3), none -> none.restore());
    }
}
