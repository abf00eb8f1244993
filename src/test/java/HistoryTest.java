/** Promises 14 to 16: undo, and the snapshot. */
public final class HistoryTest {
    private HistoryTest() {
    }

    public static void main(String[] args) {
        promise14Undo();
        promise14AtMostFourStates();
        promise14EachActIsUndone();
        promise14EachActRecordsTheStateBeforeIt();
        promise14WhatIsNoAct();
        promise15Keep();
        promise16Restore();
        promise16RestoresLampsOfThatNumber();
        promise16RestoreIsAnAct();
        Check.end();
    }

    private static void promise14Undo() {
        LampRacks racks = new LampRacks();
        Check.due("nothing to undo", racks.undo(), LampRacks.NONE);
        racks.put(0, 0, 0);
        racks.pass(10);
        racks.setVolts(0, 0);
        Check.due("undo", racks.undo(), 2);
        Check.due("volts", racks.rack(0, 0), 230);
        Check.due("hour", racks.count(0), 10);
        Check.due("undo", racks.undo(), 1);
        Check.due("hour", racks.count(0), 0);
        Check.due("wear", racks.lamp(0, 4), 0);
        Check.due("undo", racks.undo(), 0);
        Check.due("lamps", racks.count(1), 0);
        Check.due("at", racks.at(0, 0), LampRacks.NONE);
        Check.due("nothing to undo", racks.undo(), LampRacks.NONE);
        Check.due("nothing recorded", racks.count(10), 0);
    }

    private static void promise14AtMostFourStates() {
        LampRacks racks = new LampRacks();
        for (int act = 1; act <= 7; act++) {
            racks.pass(act);
            Check.due("states", racks.count(10), Math.min(4, act));
        }
        int[] hours = {21, 15, 10, 6};
        for (int left = 3; left >= 0; left--) {
            Check.due("undo", racks.undo(), left);
            Check.due("hour", racks.count(0), hours[3 - left]);
        }
        Check.due("the oldest are dropped", racks.undo(), LampRacks.NONE);
        racks.pass(1);
        racks.pass(1);
        Check.due("undo", racks.undo(), 1);
        Check.due("hour", racks.count(0), 7);
    }

    private static void promise14EachActIsUndone() {
        LampRacks racks = new LampRacks();
        racks.setBatch(1, 20, 5);
        racks.undo();
        Check.due("life", racks.batch(1, 0), 1000);
        Check.due("spread", racks.batch(1, 1), 10);
        racks.put(0, 3, 1);
        racks.takeOut(0, 3);
        racks.undo();
        Check.due("taken out", racks.at(0, 3), 0);
        Check.due("taken out", racks.lamp(0, 1), 0);
        racks.swap(0, 3, 2, 2);
        racks.undo();
        Check.due("swapped", racks.at(0, 3), 0);
        Check.due("swapped", racks.lamp(0, 2), 3);
        racks.setSteps(0, 5, 9);
        racks.pass(3);
        racks.setSteps(0, 6, 8);
        racks.undo();
        Check.due("steps", racks.rack(0, 5), 5);
        Check.due("steps", racks.rack(0, 6), 9);
        Check.due("steps", racks.rack(0, 7), 2);
        racks.undo();
        Check.due("steps", racks.rack(0, 7), 5);
        racks.set(0, 200);
        racks.set(1, 20);
        racks.undo();
        racks.undo();
        Check.due("settings", racks.count(8), 230);
        Check.due("settings", racks.count(9), 10);
        racks.pass(999);
        Check.due("dead", racks.lamp(0, 7), 1);
        racks.undo();
        Check.due("not dead", racks.lamp(0, 7), 0);
        Check.due("end", racks.lamp(0, 8), LampRacks.NONE);
        Check.due("burned", racks.lamp(0, 5), 0);
        Check.due("none ended", racks.ended(0), LampRacks.NONE);
    }

    private static final int ACTS = 10;

    private static int doAct(LampRacks racks, int act) {
        switch (act) {
            case 0:
                return racks.setBatch(4, 444, 44);
            case 1:
                return racks.put(2, 2, 4);
            case 2:
                return racks.takeOut(1, 1);
            case 3:
                return racks.swap(1, 1, 1, 2);
            case 4:
                return racks.setVolts(1, 99);
            case 5:
                return racks.setSteps(1, 9, 9);
            case 6:
                return racks.set(0, 111);
            case 7:
                return racks.pass(20);
            case 8:
                return Check.performText(racks, "t11;.7;v1:9");
            default:
                return racks.restore();
        }
    }

    private static void promise14EachActRecordsTheStateBeforeIt() {
        for (int act = 0; act < ACTS; act++) {
            LampRacks racks = new LampRacks();
            racks.keep();
            racks.put(1, 1, 3);
            racks.pass(3);
            Check.due("act " + act, doAct(racks, act) >= 0 ? 1 : 0, 1);
            Check.due("states", racks.count(10), 3);
            Check.due("undo", racks.undo(), 2);
            Check.due("hour", racks.count(0), 3);
            Check.due("lamps", racks.count(1), 1);
            Check.due("life", racks.batch(4, 0), 1000);
            Check.due("lamp", racks.at(1, 1), 0);
            Check.due("batch", racks.lamp(0, 0), 3);
            Check.due("place", racks.lamp(0, 2), 1);
            Check.due("wear", racks.lamp(0, 4), 30);
            Check.due("burned", racks.lamp(0, 5), 3);
            Check.due("volts", racks.rack(1, 0), 230);
            Check.due("steps", racks.rack(1, 5), 0);
            Check.due("wanted", racks.count(8), 230);
            Check.due("undo", racks.undo(), 1);
            Check.due("hour", racks.count(0), 0);
        }
    }

    private static void promise14WhatIsNoAct() {
        LampRacks racks = new LampRacks();
        racks.put(0, 0, 0);
        racks.type('t');
        racks.keep();
        racks.perform();
        racks.clearText();
        racks.type('.');
        racks.next(0);
        racks.put(0, 0, 0);
        racks.takeOut(1, 1);
        Check.due("states", racks.count(10), 1);
        racks.undo();
        Check.due("the text is no part of the state", racks.count(11), 1);
        Check.due("the snapshot is no part of the state", racks.restore(), 1);
    }

    private static void promise15Keep() {
        LampRacks racks = new LampRacks();
        Check.due("keep", racks.keep(), 0);
        racks.put(0, 0, 0);
        racks.put(0, 1, 0);
        racks.takeOut(0, 0);
        Check.due("keep", racks.keep(), 2);
        Check.due("no act", racks.count(10), 3);
        racks.pass(7);
        Check.due("restore", racks.restore(), 2);
        Check.due("hour", racks.count(0), 0);
        racks.pass(9);
        Check.due("in place of the one that was", racks.keep(), 2);
        racks.pass(9);
        racks.restore();
        Check.due("hour", racks.count(0), 9);
    }

    private static void promise16Restore() {
        LampRacks racks = new LampRacks();
        Check.due("no snapshot", racks.restore(), LampRacks.NONE);
        Check.due("nothing recorded", racks.count(10), 0);
        racks.setBatch(0, 50, 0);
        racks.set(0, 220);
        racks.set(1, 5);
        racks.put(1, 4, 0);
        racks.setSteps(1, 9, -3);
        racks.pass(10);
        racks.keep();
        racks.put(1, 5, 0);
        racks.setVolts(1, 300);
        racks.setBatch(0, 60, 1);
        racks.set(0, 110);
        racks.set(1, 50);
        racks.setSteps(1, 1, 1);
        racks.swap(1, 4, 2, 0);
        racks.pass(100);
        racks.type('x');
        Check.due("restore", racks.restore(), 1);
        Check.due("hour", racks.count(0), 10);
        Check.due("life", racks.batch(0, 0), 50);
        Check.due("spread", racks.batch(0, 1), 0);
        Check.due("wanted", racks.count(8), 220);
        Check.due("doubling", racks.count(9), 5);
        Check.due("volts", racks.rack(1, 0), 227);
        Check.due("step hours", racks.rack(1, 5), 9);
        Check.due("step volts", racks.rack(1, 6), -3);
        Check.due("next step", racks.rack(1, 7), 8);
        Check.due("at", racks.at(1, 4), 0);
        Check.due("at", racks.at(2, 0), LampRacks.NONE);
        Check.due("wear", racks.lamp(0, 4), 9 * 33 + 26);
        Check.due("the second lamp is unknown", racks.lamp(1, 0), LampRacks.UNKNOWN);
        Check.due("the text stays", racks.count(11), 1);
        racks.pass(5);
        Check.due("the snapshot stays", racks.restore(), 1);
        Check.due("hour", racks.count(0), 10);
    }

    private static void promise16RestoresLampsOfThatNumber() {
        LampRacks racks = new LampRacks();
        racks.setBatch(2, 70, 0);
        racks.put(0, 0, 2);
        racks.pass(5);
        racks.keep();
        racks.undo();
        racks.undo();
        racks.put(1, 7, 5);
        Check.due("another lamp 0", racks.lamp(0, 0), 5);
        Check.due("can last", racks.lamp(0, 3), 1000);
        Check.due("wear", racks.lamp(0, 4), 0);
        Check.due("burned", racks.lamp(0, 5), 0);
        racks.restore();
        int[] due = {2, 0, 0, 70, 50, 5, 5, 0, LampRacks.NONE, 0};
        for (int what = 0; what < due.length; what++) {
            Check.due("lamp(0, " + what + ")", racks.lamp(0, what), due[what]);
        }
        racks.undo();
        Check.due("the other lamp 0", racks.lamp(0, 0), 5);
    }

    private static void promise16RestoreIsAnAct() {
        LampRacks racks = new LampRacks();
        racks.keep();
        racks.pass(3);
        Check.due("restore", racks.restore(), 0);
        Check.due("states", racks.count(10), 2);
        Check.due("restore of the same state", racks.restore(), 0);
        Check.due("states", racks.count(10), 3);
        racks.undo();
        Check.due("undo", racks.undo(), 1);
        Check.due("hour", racks.count(0), 3);
    }
}
