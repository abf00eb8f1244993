/** Promises 6 to 9: volts, steps, settings, and hours that pass. */
public final class VoltsTest {
    private VoltsTest() {
    }

    public static void main(String[] args) {
        promise6SetVolts();
        promise7SetSteps();
        promise7StepsOfOneHour();
        promise7StepsStayWithinLimits();
        promise7StepsInTheMidstOfHours();
        promise8Set();
        promise8WearBySettings();
        promise9Pass();
        promise9EndsAtTheVeryHour();
        promise9CountsAllEnds();
        promise9LastHour();
        Check.end();
    }

    private static void promise6SetVolts() {
        LampRacks racks = new LampRacks();
        Check.due("setVolts", racks.setVolts(1, 300), 230);
        Check.due("setVolts", racks.setVolts(1, 0), 300);
        Check.due("setVolts again", racks.setVolts(1, 0), LampRacks.NONE);
        Check.due("first as they are", racks.setVolts(0, 230), LampRacks.NONE);
        Check.due("volts", racks.rack(1, 0), 0);
        Check.due("other volts", racks.rack(2, 0), 230);
        Check.due("rack below", racks.setVolts(-1, 100), LampRacks.UNKNOWN);
        Check.due("rack above", racks.setVolts(3, 301), LampRacks.UNKNOWN);
        Check.due("volts below", racks.setVolts(0, -1), LampRacks.BAD_VALUE);
        Check.due("volts above", racks.setVolts(0, 301), LampRacks.BAD_VALUE);
        Check.due("states", racks.count(10), 2);
    }

    private static void promise7SetSteps() {
        LampRacks racks = new LampRacks();
        Check.due("setSteps", racks.setSteps(0, 99, -50), 0);
        Check.due("hours", racks.rack(0, 5), 99);
        Check.due("volts", racks.rack(0, 6), -50);
        Check.due("next step", racks.rack(0, 7), 99);
        racks.pass(98);
        Check.due("next step", racks.rack(0, 7), 1);
        Check.due("same again is an act", racks.setSteps(0, 99, -50), 99);
        Check.due("counted anew", racks.rack(0, 7), 99);
        Check.due("states", racks.count(10), 3);
        racks.pass(98);
        Check.due("not yet", racks.rack(0, 0), 230);
        racks.pass(1);
        Check.due("stepped", racks.rack(0, 0), 180);
        Check.due("no steps", racks.setSteps(0, 0, 50), 99);
        Check.due("none to come", racks.rack(0, 7), LampRacks.NONE);
        racks.pass(200);
        Check.due("no step", racks.rack(0, 0), 180);
        Check.due("rack below", racks.setSteps(-1, 1, 1), LampRacks.UNKNOWN);
        Check.due("rack above", racks.setSteps(3, 100, 1), LampRacks.UNKNOWN);
        Check.due("hours below", racks.setSteps(0, -1, 1), LampRacks.BAD_VALUE);
        Check.due("hours above", racks.setSteps(0, 100, 1), LampRacks.BAD_VALUE);
        Check.due("volts below", racks.setSteps(0, 1, -51), LampRacks.BAD_VALUE);
        Check.due("volts above", racks.setSteps(0, 1, 51), LampRacks.BAD_VALUE);
        Check.due("volts 50", racks.setSteps(0, 1, 50), 0);
        Check.due("setVolts keeps steps", racks.setVolts(0, 100), 180);
        Check.due("step hours", racks.rack(0, 5), 1);
    }

    private static void promise7StepsOfOneHour() {
        LampRacks racks = new LampRacks();
        racks.put(0, 0, 0);
        racks.setSteps(0, 1, 10);
        racks.pass(3);
        Check.due("the hour of a step wears by the volts before it", racks.lamp(0, 4), 10 + 20 + 30);
        Check.due("volts", racks.rack(0, 0), 260);
        Check.due("next step", racks.rack(0, 7), 1);
    }

    private static void promise7StepsStayWithinLimits() {
        LampRacks racks = new LampRacks();
        racks.put(0, 0, 0);
        racks.setSteps(0, 3, -50);
        racks.pass(12);
        Check.due("volts", racks.rack(0, 0), 30);
        racks.pass(3);
        Check.due("not below 0", racks.rack(0, 0), 0);
        int burned = racks.lamp(0, 5);
        racks.pass(4);
        Check.due("dark", racks.lamp(0, 5), burned);
        Check.due("burned before", burned, 15);
        Check.due("counted on", racks.rack(0, 7), 2);
        racks.setVolts(0, 60);
        racks.pass(1);
        Check.due("not yet", racks.rack(0, 0), 60);
        racks.pass(1);
        Check.due("stepped", racks.rack(0, 0), 10);
        racks.setSteps(1, 7, 50);
        racks.pass(13);
        Check.due("volts", racks.rack(1, 0), 280);
        racks.pass(1);
        Check.due("not above 300", racks.rack(1, 0), 300);
        racks.pass(20);
        Check.due("300 still", racks.rack(1, 0), 300);
        Check.due("counted on", racks.rack(1, 7), 1);
        racks.setVolts(1, 200);
        racks.pass(1);
        Check.due("stepped", racks.rack(1, 0), 250);
    }

    private static void promise7StepsInTheMidstOfHours() {
        LampRacks whole = new LampRacks();
        LampRacks single = new LampRacks();
        LampRacks[] both = {whole, single};
        for (LampRacks racks : both) {
            racks.put(0, 0, 3);
            racks.put(0, 3, 0);
            racks.put(1, 4, 2);
            racks.setSteps(0, 4, 7);
            racks.setSteps(1, 3, -20);
        }
        whole.pass(60);
        for (int hour = 0; hour < 60; hour++) {
            single.pass(1);
        }
        for (int lamp = 0; lamp < 3; lamp++) {
            for (int what = 0; what <= 9; what++) {
                Check.due("lamp " + lamp + ", " + what, whole.lamp(lamp, what), single.lamp(lamp, what));
            }
        }
        Check.due("volts", whole.rack(0, 0), 300);
        Check.due("volts", whole.rack(1, 0), 0);
        Check.due("burned till it was dark", whole.lamp(2, 5), 36);
    }

    private static void promise8Set() {
        LampRacks racks = new LampRacks();
        Check.due("set 0", racks.set(0, 100), 230);
        Check.due("set 0", racks.set(0, 300), 100);
        Check.due("set 0 again", racks.set(0, 300), LampRacks.NONE);
        Check.due("set 1", racks.set(1, 100), 10);
        Check.due("set 1", racks.set(1, 1), 100);
        Check.due("set 1 again", racks.set(1, 1), LampRacks.NONE);
        Check.due("wanted", racks.count(8), 300);
        Check.due("doubling", racks.count(9), 1);
        Check.due("which below", racks.set(-1, 200), LampRacks.UNKNOWN);
        Check.due("which above", racks.set(2, 0), LampRacks.UNKNOWN);
        Check.due("wanted below", racks.set(0, 99), LampRacks.BAD_VALUE);
        Check.due("wanted above", racks.set(0, 301), LampRacks.BAD_VALUE);
        Check.due("doubling below", racks.set(1, 0), LampRacks.BAD_VALUE);
        Check.due("doubling above", racks.set(1, 101), LampRacks.BAD_VALUE);
        Check.due("states", racks.count(10), 4);
        racks.undo();
        Check.due("undone", racks.count(9), 100);
    }

    private static void promise8WearBySettings() {
        LampRacks racks = new LampRacks();
        racks.set(1, 7);
        racks.setVolts(0, 232);
        Check.due("10 and 20 / 7", racks.rack(0, 3), 12);
        racks.setVolts(0, 228);
        Check.due("10 and -20 / 7, towards 0", racks.rack(0, 3), 8);
        Check.due("hot: a tenth, rounded down", racks.rack(0, 4), 8);
        racks.setVolts(0, 224);
        Check.due("10 and -60 / 7, towards 0", racks.rack(0, 3), 2);
        racks.setVolts(0, 223);
        Check.due("at least 1", racks.rack(0, 3), 1);
        racks.setVolts(0, 1);
        Check.due("at least 1", racks.rack(0, 3), 1);
        racks.setVolts(0, 0);
        Check.due("dark", racks.rack(0, 3), 0);
        Check.due("dark and hot", racks.rack(0, 4), 0);
        racks.set(0, 100);
        racks.set(1, 1);
        racks.setVolts(0, 300);
        Check.due("most", racks.rack(0, 3), 2010);
        Check.due("most and hot", racks.rack(0, 4), 2211);
        racks.set(1, 100);
        Check.due("least doubling", racks.rack(0, 3), 30);
    }

    private static void promise9Pass() {
        LampRacks racks = new LampRacks();
        Check.due("pass", racks.pass(1), 0);
        Check.due("pass", racks.pass(999), 0);
        Check.due("hour", racks.count(0), 1000);
        Check.due("states", racks.count(10), 2);
        Check.due("below", racks.pass(0), LampRacks.BAD_VALUE);
        Check.due("above", racks.pass(1000), LampRacks.BAD_VALUE);
        Check.due("extreme", racks.pass(Integer.MIN_VALUE), LampRacks.BAD_VALUE);
        Check.due("extreme", racks.pass(Integer.MAX_VALUE), LampRacks.BAD_VALUE);
        Check.due("hour", racks.count(0), 1000);
        racks.setBatch(0, 10, 0);
        racks.put(0, 0, 0);
        racks.put(1, 0, 0);
        racks.put(2, 3, 0);
        racks.setVolts(1, 0);
        Check.due("two end", racks.pass(50), 2);
        Check.due("burned", racks.lamp(0, 5), 10);
        Check.due("wear", racks.lamp(0, 4), 100);
        Check.due("burned, hot", racks.lamp(2, 5), 10);
        Check.due("wear, hot", racks.lamp(2, 4), 110);
        Check.due("dark", racks.lamp(1, 5), 0);
        Check.due("ended at", racks.lamp(0, 8), 1010);
        Check.due("none ends twice", racks.pass(50), 0);
    }

    private static void promise9EndsAtTheVeryHour() {
        LampRacks racks = new LampRacks();
        racks.setBatch(0, 10, 0);
        racks.put(0, 0, 0);
        Check.due("9 hours", racks.pass(9), 0);
        Check.due("alive", racks.lamp(0, 7), 0);
        Check.due("no end", racks.lamp(0, 8), LampRacks.NONE);
        Check.due("10th hour", racks.pass(1), 1);
        Check.due("dead", racks.lamp(0, 7), 1);
        Check.due("end", racks.lamp(0, 8), 10);
        racks.setVolts(0, 300);
        racks.pass(1);
        Check.due("the dead one wears no more", racks.lamp(0, 4), 100);
        racks.put(0, 1, 0);
        Check.due("worn beyond its life in 2 hours", racks.pass(2), 1);
        Check.due("wear", racks.lamp(1, 4), 160);
        Check.due("hours that count", racks.lamp(1, 6), 16);
        Check.due("burned", racks.lamp(1, 5), 2);
    }

    private static void promise9CountsAllEnds() {
        LampRacks racks = new LampRacks();
        for (int lamp = 0; lamp < 7; lamp++) {
            racks.setBatch(0, 10 + lamp, 0);
            racks.put(lamp % 2, lamp, 0);
        }
        racks.setSteps(0, 2, 1);
        racks.setSteps(1, 3, -1);
        Check.due("the lives are 10 to 16", racks.pass(99), 7);
    }

    private static void promise9LastHour() {
        LampRacks racks = new LampRacks();
        for (int hundred = 0; hundred < 100; hundred++) {
            Check.due("pass", racks.pass(999), 0);
        }
        Check.due("beyond", racks.pass(100), LampRacks.FULL);
        Check.due("bad before full", racks.pass(1000), LampRacks.BAD_VALUE);
        Check.due("performed beyond", Check.performText(racks, ".99;.1"), LampRacks.NOT_POSSIBLE);
        Check.due("stopped at", racks.stopped(0), 1);
        Check.due("stopped by", racks.stopped(1), LampRacks.FULL);
        Check.due("hour", racks.count(0), 99900);
        Check.due("to the last hour", racks.pass(99), 0);
        Check.due("hour", racks.count(0), 99999);
        Check.due("beyond", racks.pass(1), LampRacks.FULL);
        racks.setBatch(0, 10, 0);
        racks.put(0, 0, 0);
        Check.due("next is told even so", racks.next(1), 10);
    }
}
