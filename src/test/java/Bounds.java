import java.util.function.IntUnaryOperator;
import java.util.function.Supplier;
import java.util.function.ToIntFunction;

/** What the tests of single sentences have in common. */
abstract class Bounds {
    static final int UNKNOWN = -1001;
    static final int BAD_VALUE = -1002;
    static final int FULL = -1003;
    static final int NOT_POSSIBLE = -1004;
    static final int NONE = -1005;

    private static final int MOST_UNDOS = 4;
    private static final String TEXT_IN_USE = ".1;p00:0";

    static void sentence(String section, String quote) {
        Check.sentence(section, quote);
    }

    static void due(String call, long answer, long due) {
        Check.due(call, answer, due);
    }

    static void same(String call, String told, String due) {
        if (!told.equals(due)) {
            System.out.println("told:\n" + told + "due:\n" + due);
        }
        Check.due(call + ": all is told as due", told.equals(due) ? 1 : 0, 1);
    }

    /** The ends of a range are not refused by that error; what is just beyond them, or far, is. */
    static void rangeDue(int least, int most, int refusal, IntUnaryOperator call) {
        for (int value : new int[] {least, least + 1, most - 1, most}) {
            int answer = call.applyAsInt(value);
            due("the call with " + value + " is refused", answer == refusal ? 1 : 0, 0);
        }
        for (int value : new int[] {Integer.MIN_VALUE, least - 1, most + 1, Integer.MAX_VALUE}) {
            due("the call with " + value, call.applyAsInt(value), refusal);
        }
    }

    /**
     * At the hour 23: lamp 0 dead on place 0 of rack 0, lamp 1 on the hot place 3 of it, lamp 2 on the hot place 4 of
     * rack 1, whose volts step down to 170, lamp 3 in no rack, rack 2 dark. Three states, a snapshot of the hour 0, a
     * text, and a stop.
     */
    static LampRacks inUse() {
        LampRacks racks = new LampRacks();
        racks.setBatch(0, 20, 0);
        Check.performText(racks, "p00:0;p03:1;p14:2;p25:3;t25;s1:7-20;v2:0");
        racks.keep();
        Check.performText(racks, TEXT_IN_USE);
        racks.pass(23);
        return racks;
    }

    static LampRacks withLamps(int lamps) {
        LampRacks racks = new LampRacks();
        for (int lamp = 0; lamp < lamps; lamp++) {
            racks.put(2, 7, 0);
            racks.takeOut(2, 7);
        }
        return racks;
    }

    static LampRacks atHour(int hour) {
        LampRacks racks = new LampRacks();
        for (int left = hour; left > 0; left -= Math.min(999, left)) {
            racks.pass(Math.min(999, left));
        }
        return racks;
    }

    /** The call is an act: it records one state, and an undo brings back all that was told before it. */
    static void actDue(ToIntFunction<LampRacks> call) {
        LampRacks racks = inUse();
        String before = Everything.told(racks);
        int answer = call.applyAsInt(racks);
        due("the act, answered by " + answer + ", is refused", answer < 0 ? 1 : 0, 0);
        due("states", racks.count(10), 4);
        due("undo()", racks.undo(), 3);
        same("undo()", Everything.told(racks), before);
    }

    /** Performs a text on what inUse() made, and types its text again, so that it tells what it told before. */
    static int performThenRetype(LampRacks racks, String text) {
        int answer = Check.performText(racks, text);
        Check.typeText(racks, TEXT_IN_USE);
        return answer;
    }

    /** The call is answered so, and changes nothing, if made on what inUse() makes. */
    static void refusedDue(int due, ToIntFunction<LampRacks> call) {
        refusedDue(due, Bounds::inUse, call);
    }

    static void refusedDue(int due, Supplier<LampRacks> maker, ToIntFunction<LampRacks> call) {
        LampRacks racks = maker.get();
        LampRacks twin = maker.get();
        call.applyAsInt(racks);
        due("stopped(0) after it", racks.stopped(0), twin.stopped(0));
        due("stopped(1) after it", racks.stopped(1), twin.stopped(1));
        refusedButForStop(due, maker, call);
    }

    /** A twin that the call was not made on tells the same then: at once, and after undos or restore(). */
    static void refusedButForStop(int due, Supplier<LampRacks> maker, ToIntFunction<LampRacks> call) {
        for (int undos = 0; undos <= MOST_UNDOS + 1; undos++) {
            LampRacks racks = maker.get();
            LampRacks twin = maker.get();
            due("the refused call", call.applyAsInt(racks), due);
            for (int undo = 1; undo <= undos && undos <= MOST_UNDOS; undo++) {
                due("undo() after it", racks.undo(), twin.undo());
            }
            if (undos > MOST_UNDOS) {
                due("restore() after it", racks.restore(), twin.restore());
            }
            same("after " + undos, Everything.told(racks), Everything.told(twin));
        }
    }
}
