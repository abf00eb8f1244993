/** Promises 1 to 5: a new object, batches, and lamps that are put in, taken out and swapped. */
public final class LampsTest {
    private LampsTest() {
    }

    public static void main(String[] args) {
        promise1NewObject();
        promise2SetBatch();
        promise2ChangesNoLampThatIsIn();
        promise3Put();
        promise3WhatLampsCanLast();
        promise3AtMostSixtyLamps();
        promise4TakeOut();
        promise5Swap();
        promise5SwapMovesWearAndHeat();
        Check.end();
    }

    private static void promise1NewObject() {
        LampRacks racks = new LampRacks();
        for (int rack = 0; rack <= 2; rack++) {
            Check.due("new: volts", racks.rack(rack, 0), 230);
            Check.due("new: lamps", racks.rack(rack, 1), 0);
            Check.due("new: wear", racks.rack(rack, 3), 10);
            Check.due("new: hot wear", racks.rack(rack, 4), 11);
            Check.due("new: step hours", racks.rack(rack, 5), 0);
            Check.due("new: step volts", racks.rack(rack, 6), 0);
            Check.due("new: next step", racks.rack(rack, 7), LampRacks.NONE);
            for (int place = 0; place <= 7; place++) {
                Check.due("new: at", racks.at(rack, place), LampRacks.NONE);
            }
        }
        for (int batch = 0; batch <= 5; batch++) {
            Check.due("new: life", racks.batch(batch, 0), 1000);
            Check.due("new: spread", racks.batch(batch, 1), 10 * batch);
            Check.due("new: lamps of batch", racks.batch(batch, 2), 0);
        }
        int[] counts = {0, 0, 0, 0, 0, 0, 0, 0, 230, 10, 0, 0};
        for (int what = 0; what < counts.length; what++) {
            Check.due("new: count " + what, racks.count(what), counts[what]);
        }
        Check.due("new: stopped", racks.stopped(0), LampRacks.NONE);
        Check.due("new: undo", racks.undo(), LampRacks.NONE);
        Check.due("new: restore", racks.restore(), LampRacks.NONE);
    }

    private static void promise2SetBatch() {
        LampRacks racks = new LampRacks();
        Check.due("setBatch", racks.setBatch(2, 10, 0), 1000);
        Check.due("setBatch again", racks.setBatch(2, 10, 0), LampRacks.NONE);
        Check.due("setBatch spread alone", racks.setBatch(2, 10, 90), 10);
        Check.due("setBatch life alone", racks.setBatch(2, 9999, 90), 10);
        Check.due("life", racks.batch(2, 0), 9999);
        Check.due("spread", racks.batch(2, 1), 90);
        Check.due("other life", racks.batch(3, 0), 1000);
        Check.due("states", racks.count(10), 3);
        Check.due("batch below", racks.setBatch(-1, 100, 10), LampRacks.UNKNOWN);
        Check.due("batch above", racks.setBatch(6, 100, 10), LampRacks.UNKNOWN);
        Check.due("batch before life", racks.setBatch(6, 0, 10), LampRacks.UNKNOWN);
        Check.due("life below", racks.setBatch(0, 9, 10), LampRacks.BAD_VALUE);
        Check.due("life above", racks.setBatch(0, 10000, 10), LampRacks.BAD_VALUE);
        Check.due("spread below", racks.setBatch(0, 100, -1), LampRacks.BAD_VALUE);
        Check.due("spread above", racks.setBatch(0, 100, 91), LampRacks.BAD_VALUE);
        Check.due("extreme", racks.setBatch(Integer.MIN_VALUE, 10, 0), LampRacks.UNKNOWN);
        Check.due("extreme life", racks.setBatch(0, Integer.MAX_VALUE, 0), LampRacks.BAD_VALUE);
        Check.due("first as it is", racks.setBatch(5, 1000, 50), LampRacks.NONE);
        Check.due("nothing recorded", racks.count(10), 3);
        Check.due("nothing changed", racks.batch(0, 0), 1000);
    }

    private static void promise2ChangesNoLampThatIsIn() {
        LampRacks racks = new LampRacks();
        racks.put(0, 0, 0);
        racks.setBatch(0, 50, 0);
        Check.due("lamp of before", racks.lamp(0, 3), 1000);
        racks.put(0, 1, 0);
        Check.due("lamp of after", racks.lamp(1, 3), 50);
    }

    private static void promise3Put() {
        LampRacks racks = new LampRacks();
        Check.due("put", racks.put(2, 7, 5), 0);
        Check.due("put", racks.put(0, 0, 1), 1);
        Check.due("at", racks.at(2, 7), 0);
        Check.due("at", racks.at(0, 0), 1);
        Check.due("batch", racks.lamp(0, 0), 5);
        Check.due("rack", racks.lamp(0, 1), 2);
        Check.due("place", racks.lamp(0, 2), 7);
        Check.due("wear", racks.lamp(0, 4), 0);
        Check.due("taken", racks.put(0, 0, 0), LampRacks.NOT_POSSIBLE);
        Check.due("batch before taken", racks.put(0, 0, 6), LampRacks.UNKNOWN);
        Check.due("rack below", racks.put(-1, 0, 0), LampRacks.UNKNOWN);
        Check.due("rack above", racks.put(3, 0, 0), LampRacks.UNKNOWN);
        Check.due("place below", racks.put(0, -1, 0), LampRacks.UNKNOWN);
        Check.due("place above", racks.put(0, 8, 0), LampRacks.UNKNOWN);
        Check.due("batch below", racks.put(1, 1, -1), LampRacks.UNKNOWN);
        Check.due("extreme", racks.put(Integer.MAX_VALUE, Integer.MIN_VALUE, 0), LampRacks.UNKNOWN);
        Check.due("states", racks.count(10), 2);
        Check.due("lamps", racks.count(1), 2);
    }

    /** Shares by numbers: 0, 7, 4, 1, 8, 5, 2, 9 (weak), 6, 3. */
    private static void promise3WhatLampsCanLast() {
        LampRacks racks = new LampRacks();
        racks.setBatch(4, 999, 77);
        int[] due = {999, 461, 692, 923, 384, 615, 846, 30, 538, 769};
        for (int lamp = 0; lamp < due.length; lamp++) {
            racks.put(lamp / 8, lamp % 8, 4);
            Check.due("can last " + lamp, racks.lamp(lamp, 3), due[lamp]);
            Check.due("weak " + lamp, racks.lamp(lamp, 9), lamp == 7 ? 1 : 0);
        }
        racks.setBatch(3, 10, 90);
        for (int lamp = 10; lamp < 17; lamp++) {
            racks.put(lamp / 8, lamp % 8, 4);
        }
        racks.put(2, 7, 3);
        Check.due("weak at least an hour", racks.lamp(17, 3), 1);
        Check.due("weak", racks.lamp(17, 9), 1);
        Check.due("weak ones", racks.count(5), 2);
    }

    private static void promise3AtMostSixtyLamps() {
        LampRacks racks = new LampRacks();
        for (int lamp = 0; lamp < 60; lamp++) {
            Check.due("put " + lamp, racks.put(0, 0, 0), lamp);
            if (lamp < 59) {
                Check.due("takeOut " + lamp, racks.takeOut(0, 0), lamp);
            }
        }
        Check.due("taken before full", racks.put(0, 0, 0), LampRacks.NOT_POSSIBLE);
        Check.due("full", racks.put(0, 1, 0), LampRacks.FULL);
        Check.due("unknown before full", racks.put(0, 1, 6), LampRacks.UNKNOWN);
        Check.due("lamps", racks.count(1), 60);
        Check.due("in racks", racks.count(2), 1);
        Check.due("states", racks.count(10), 4);
        Check.due("undo", racks.undo(), 3);
        Check.due("put after undo", racks.put(1, 1, 0), 59);
    }

    private static void promise4TakeOut() {
        LampRacks racks = new LampRacks();
        racks.put(1, 3, 0);
        racks.put(1, 4, 0);
        racks.pass(5);
        Check.due("takeOut", racks.takeOut(1, 4), 1);
        Check.due("at", racks.at(1, 4), LampRacks.NONE);
        Check.due("rack", racks.lamp(1, 1), LampRacks.NONE);
        Check.due("place", racks.lamp(1, 2), LampRacks.NONE);
        Check.due("reason", racks.reason(1), 2);
        racks.pass(5);
        Check.due("wear stays", racks.lamp(1, 4), 55);
        Check.due("other wears", racks.lamp(0, 4), 110);
        Check.due("states", racks.count(10), 4);
        Check.due("none there", racks.takeOut(1, 4), LampRacks.NONE);
        Check.due("rack below", racks.takeOut(-1, 3), LampRacks.UNKNOWN);
        Check.due("rack above", racks.takeOut(3, 3), LampRacks.UNKNOWN);
        Check.due("place below", racks.takeOut(1, -1), LampRacks.UNKNOWN);
        Check.due("place above", racks.takeOut(1, 8), LampRacks.UNKNOWN);
        Check.due("place free again", racks.put(1, 4, 0), 2);
    }

    private static void promise5Swap() {
        LampRacks racks = new LampRacks();
        racks.put(0, 1, 0);
        racks.put(2, 6, 0);
        Check.due("two lamps", racks.swap(0, 1, 2, 6), 2);
        Check.due("at", racks.at(0, 1), 1);
        Check.due("at", racks.at(2, 6), 0);
        Check.due("lamp's rack", racks.lamp(0, 1), 2);
        Check.due("lamp's place", racks.lamp(0, 2), 6);
        Check.due("lamp and nothing", racks.swap(0, 1, 0, 7), 1);
        Check.due("at", racks.at(0, 1), LampRacks.NONE);
        Check.due("at", racks.at(0, 7), 1);
        Check.due("nothing and lamp", racks.swap(0, 1, 0, 7), 1);
        Check.due("at", racks.at(0, 1), 1);
        Check.due("states", racks.count(10), 4);
        racks.undo();
        Check.due("undone", racks.at(0, 7), 1);
        Check.due("nothing", racks.swap(1, 1, 1, 2), LampRacks.NONE);
        Check.due("same place", racks.swap(0, 7, 0, 7), LampRacks.NONE);
        Check.due("same empty place", racks.swap(1, 0, 1, 0), LampRacks.NONE);
        Check.due("same place of another rack", racks.swap(0, 7, 1, 7), 1);
        int[][] unknown = {{-1, 0, 0, 7}, {3, 0, 0, 7}, {0, -1, 0, 7}, {0, 8, 0, 7}, {0, 7, -1, 0}, {0, 7, 3, 0},
            {0, 7, 0, -1}, {0, 7, 0, 8}, {3, 3, 3, 3}};
        for (int[] bad : unknown) {
            Check.due("unknown", racks.swap(bad[0], bad[1], bad[2], bad[3]), LampRacks.UNKNOWN);
        }
        Check.due("states", racks.count(10), 4);
    }

    private static void promise5SwapMovesWearAndHeat() {
        LampRacks racks = new LampRacks();
        racks.put(0, 2, 0);
        racks.pass(1);
        racks.swap(0, 2, 0, 3);
        racks.pass(1);
        Check.due("cold, then hot", racks.lamp(0, 4), 21);
        racks.swap(0, 3, 0, 4);
        racks.pass(1);
        Check.due("hot still", racks.lamp(0, 4), 32);
        racks.swap(0, 4, 0, 5);
        racks.pass(1);
        Check.due("cold again", racks.lamp(0, 4), 42);
    }
}
