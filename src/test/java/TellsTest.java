/** Promises 17 to 26: what is told of lamps, racks, places, batches, ends and all. */
public final class TellsTest {
    private TellsTest() {
    }

    public static void main(String[] args) {
        promise17Lamp();
        promise18Rack();
        promise19At();
        promise20Batch();
        promise20MiddleLife();
        promise20Doubtful();
        promise21Lasted();
        promise22Ended();
        promise23Lasts();
        promise24Reason();
        promise25Next();
        promise25NextWithSteps();
        promise25NextWithin3000Hours();
        promise26Count();
        Check.end();
    }

    private static void toldDue(LampRacks racks, int lamp, int[] due) {
        for (int what = 0; what < due.length; what++) {
            Check.due("lamp(" + lamp + ", " + what + ")", racks.lamp(lamp, what), due[what]);
        }
    }

    private static void promise17Lamp() {
        LampRacks racks = new LampRacks();
        racks.setBatch(5, 12, 50);
        racks.put(2, 4, 5);
        racks.put(1, 6, 5);
        racks.pass(7);
        toldDue(racks, 0, new int[] {5, 2, 4, 12, 77, 7, 7, 0, LampRacks.NONE, 0});
        toldDue(racks, 1, new int[] {5, 1, 6, 8, 70, 7, 7, 0, LampRacks.NONE, 0});
        racks.takeOut(2, 4);
        racks.pass(3);
        toldDue(racks, 0, new int[] {5, LampRacks.NONE, LampRacks.NONE, 12, 77, 7, 7, 0, LampRacks.NONE, 0});
        toldDue(racks, 1, new int[] {5, 1, 6, 8, 80, 8, 8, 1, 8, 0});
        Check.due("lamp below", racks.lamp(-1, 0), LampRacks.UNKNOWN);
        Check.due("lamp above", racks.lamp(2, 0), LampRacks.UNKNOWN);
        Check.due("extreme", racks.lamp(Integer.MAX_VALUE, 0), LampRacks.UNKNOWN);
        Check.due("extreme", racks.lamp(Integer.MIN_VALUE, 99), LampRacks.UNKNOWN);
        Check.due("what below", racks.lamp(0, -1), LampRacks.BAD_VALUE);
        Check.due("what above", racks.lamp(0, 10), LampRacks.BAD_VALUE);
    }

    private static void promise18Rack() {
        LampRacks racks = new LampRacks();
        racks.setBatch(0, 10, 0);
        racks.put(1, 0, 0);
        racks.pass(10);
        racks.put(1, 7, 0);
        racks.put(1, 3, 0);
        racks.put(0, 3, 0);
        racks.setVolts(1, 235);
        racks.setSteps(1, 8, -25);
        racks.pass(3);
        int[] due = {235, 3, 2, 15, 16, 8, -25, 5};
        for (int what = 0; what < due.length; what++) {
            Check.due("rack(1, " + what + ")", racks.rack(1, what), due[what]);
        }
        Check.due("rack below", racks.rack(-1, 0), LampRacks.UNKNOWN);
        Check.due("rack above", racks.rack(3, 99), LampRacks.UNKNOWN);
        Check.due("what below", racks.rack(0, -1), LampRacks.BAD_VALUE);
        Check.due("what above", racks.rack(0, 8), LampRacks.BAD_VALUE);
    }

    private static void promise19At() {
        LampRacks racks = new LampRacks();
        for (int spot = 0; spot < 24; spot++) {
            racks.put(spot / 8, spot % 8, 0);
        }
        for (int spot = 0; spot < 24; spot++) {
            Check.due("at", racks.at(spot / 8, spot % 8), spot);
        }
        racks.takeOut(1, 0);
        Check.due("none", racks.at(1, 0), LampRacks.NONE);
        Check.due("rack below", racks.at(-1, 0), LampRacks.UNKNOWN);
        Check.due("rack above", racks.at(3, 0), LampRacks.UNKNOWN);
        Check.due("place below", racks.at(1, -1), LampRacks.UNKNOWN);
        Check.due("place above", racks.at(0, 8), LampRacks.UNKNOWN);
        Check.due("extreme", racks.at(1, Integer.MIN_VALUE), LampRacks.UNKNOWN);
    }

    private static void batchDue(LampRacks racks, int batch, int[] due) {
        for (int what = 0; what < due.length; what++) {
            Check.due("batch(" + batch + ", " + what + ")", racks.batch(batch, what), due[what]);
        }
    }

    private static void promise20Batch() {
        LampRacks racks = new LampRacks();
        racks.setBatch(2, 20, 0);
        racks.put(0, 0, 2);
        racks.put(0, 1, 3);
        racks.put(0, 2, 2);
        racks.put(0, 3, 2);
        racks.takeOut(0, 2);
        racks.pass(19);
        batchDue(racks, 2, new int[] {20, 0, 3, 1, 0, LampRacks.NONE, 0});
        racks.pass(1);
        batchDue(racks, 2, new int[] {20, 0, 3, 2, 0, 20, 0});
        racks.setBatch(2, 42, 7);
        batchDue(racks, 2, new int[] {42, 7, 3, 2, 2, 20, 1});
        racks.setBatch(2, 41, 7);
        batchDue(racks, 2, new int[] {41, 7, 3, 2, 0, 20, 0});
        batchDue(racks, 3, new int[] {1000, 30, 1, 0, 0, LampRacks.NONE, 0});
        batchDue(racks, 4, new int[] {1000, 40, 0, 0, 0, LampRacks.NONE, 0});
        Check.due("batch below", racks.batch(-1, 0), LampRacks.UNKNOWN);
        Check.due("batch above", racks.batch(6, 99), LampRacks.UNKNOWN);
        Check.due("what below", racks.batch(0, -1), LampRacks.BAD_VALUE);
        Check.due("what above", racks.batch(0, 7), LampRacks.BAD_VALUE);
    }

    /** Lamps that are told in another order than that in which they end. */
    private static void promise20MiddleLife() {
        LampRacks racks = new LampRacks();
        int[] lives = {20, 40, 10, 30, 10};
        for (int lamp = 0; lamp < lives.length; lamp++) {
            racks.setBatch(1, lives[lamp], 0);
            racks.put(lamp % 3, lamp / 3, 1);
        }
        racks.setVolts(1, 250);
        racks.pass(13);
        Check.due("2 of 5: too few", racks.batch(1, 5), LampRacks.NONE);
        racks.pass(1);
        Check.due("they end as 4, 2, 1", racks.ended(2), 1);
        Check.due("10, 12, 42: the third", racks.batch(1, 5), 42);
        racks.pass(6);
        Check.due("10, 12, 20, 42: the third", racks.batch(1, 5), 20);
        racks.setBatch(1, 50, 0);
        racks.put(2, 5, 1);
        Check.due("of 6 the third", racks.batch(1, 5), 20);
        racks.put(2, 6, 1);
        Check.due("of 7 the fourth", racks.batch(1, 5), 42);
        racks.put(2, 7, 1);
        Check.due("of 8 the fourth", racks.batch(1, 5), 42);
        racks.put(0, 7, 1);
        Check.due("4 of 9: too few", racks.batch(1, 5), LampRacks.NONE);
        LampRacks two = new LampRacks();
        two.setBatch(0, 10, 0);
        two.put(0, 3, 0);
        two.put(0, 0, 0);
        two.pass(10);
        Check.due("10, 11: the first", two.batch(0, 5), 10);
        two.put(0, 1, 0);
        Check.due("10, 11 of three: the second", two.batch(0, 5), 11);
        LampRacks one = new LampRacks();
        one.setBatch(0, 10, 0);
        one.put(0, 0, 0);
        Check.due("none of one", one.batch(0, 5), LampRacks.NONE);
        one.pass(10);
        Check.due("one of one", one.batch(0, 5), 10);
    }

    private static void promise20Doubtful() {
        LampRacks racks = new LampRacks();
        racks.setBatch(0, 10, 0);
        racks.put(0, 0, 0);
        racks.setBatch(0, 30, 0);
        racks.put(0, 1, 0);
        racks.put(1, 1, 0);
        Check.due("none dead: not doubtful", racks.batch(0, 6), 0);
        racks.pass(10);
        Check.due("10 of 30 is early", racks.batch(0, 4), 1);
        Check.due("one of one: doubtful", racks.batch(0, 6), 1);
        racks.pass(20);
        Check.due("one of three", racks.batch(0, 6), 0);
        racks.setBatch(0, 21, 0);
        Check.due("10 is not less than 21 / 2, rounded down", racks.batch(0, 4), 0);
        racks.setBatch(0, 22, 0);
        Check.due("10 is less than 22 / 2", racks.batch(0, 4), 1);
        racks.setBatch(0, 62, 0);
        Check.due("three of three", racks.batch(0, 6), 1);
        LampRacks half = new LampRacks();
        half.setBatch(0, 10, 0);
        half.put(0, 0, 0);
        half.setBatch(0, 30, 0);
        half.put(0, 1, 0);
        half.pass(30);
        Check.due("dead", half.batch(0, 3), 2);
        Check.due("just the half is not more", half.batch(0, 6), 0);
    }

    private static void promise21Lasted() {
        LampRacks racks = new LampRacks();
        racks.setBatch(0, 10, 0);
        racks.put(0, 0, 0);
        racks.put(0, 3, 0);
        racks.put(0, 1, 1);
        racks.setBatch(0, 99, 0);
        racks.put(1, 0, 0);
        racks.setVolts(1, 231);
        racks.pass(12);
        Check.due("0 hours", racks.lasted(0, 0), 3);
        Check.due("10 hours", racks.lasted(0, 10), 3);
        Check.due("11 hours", racks.lasted(0, 11), 2);
        Check.due("12 hours", racks.lasted(0, 12), 1);
        Check.due("13 hours", racks.lasted(0, 13), 1);
        Check.due("14 hours", racks.lasted(0, 14), 0);
        Check.due("most hours", racks.lasted(0, 99999), 0);
        Check.due("other batch", racks.lasted(1, 12), 1);
        Check.due("no lamps", racks.lasted(2, 0), 0);
        Check.due("batch below", racks.lasted(-1, 0), LampRacks.UNKNOWN);
        Check.due("batch above", racks.lasted(6, -1), LampRacks.UNKNOWN);
        Check.due("hours below", racks.lasted(0, -1), LampRacks.BAD_VALUE);
        Check.due("hours above", racks.lasted(0, 100000), LampRacks.BAD_VALUE);
    }

    private static void promise22Ended() {
        LampRacks racks = new LampRacks();
        int[] lives = {30, 20, 30, 10, 20, 500};
        for (int lamp = 0; lamp < lives.length; lamp++) {
            racks.setBatch(0, lives[lamp], 0);
            racks.put(2 - lamp % 3, lamp / 3, 0);
        }
        racks.pass(20);
        racks.takeOut(2, 1);
        racks.pass(20);
        int[] order = {3, 1, 4, 0, 2, LampRacks.NONE, LampRacks.NONE};
        for (int rank = 0; rank < order.length; rank++) {
            Check.due("ended(" + rank + ")", racks.ended(rank), order[rank]);
        }
        Check.due("rank below", racks.ended(-1), LampRacks.BAD_VALUE);
        Check.due("extreme", racks.ended(Integer.MIN_VALUE), LampRacks.BAD_VALUE);
        Check.due("extreme", racks.ended(Integer.MAX_VALUE), LampRacks.NONE);
        Check.due("none ended", new LampRacks().ended(0), LampRacks.NONE);
    }

    private static void promise23Lasts() {
        LampRacks racks = new LampRacks();
        racks.setBatch(0, 50, 0);
        racks.put(0, 4, 0);
        racks.put(0, 5, 0);
        racks.pass(10);
        Check.due("hot: 390 by 11", racks.lasts(0, 230), 36);
        Check.due("cold: 400 by 10", racks.lasts(1, 230), 40);
        Check.due("cold: 400 by 80", racks.lasts(1, 300), 5);
        Check.due("hot: 390 by 88", racks.lasts(0, 300), 5);
        Check.due("cold: 400 by 1", racks.lasts(1, 1), 400);
        Check.due("hot: 390 by 1", racks.lasts(0, 1), 390);
        racks.swap(0, 4, 0, 5);
        Check.due("now hot: 400 by 11", racks.lasts(1, 230), 37);
        racks.takeOut(0, 4);
        Check.due("in no rack: not hot", racks.lasts(1, 230), 40);
        racks.setVolts(0, 0);
        Check.due("in the dark, too", racks.lasts(0, 230), 39);
        racks.setSteps(0, 1, 50);
        Check.due("steps do not count", racks.lasts(0, 230), 39);
        racks.set(1, 100);
        Check.due("settings do", racks.lasts(0, 300), 23);
        Check.due("lamp below", racks.lasts(-1, 0), LampRacks.UNKNOWN);
        Check.due("lamp above", racks.lasts(2, 230), LampRacks.UNKNOWN);
        Check.due("volts below", racks.lasts(0, 0), LampRacks.BAD_VALUE);
        Check.due("volts above", racks.lasts(0, 301), LampRacks.BAD_VALUE);
        racks.setSteps(0, 0, 0);
        racks.setVolts(0, 230);
        racks.pass(39);
        Check.due("dead", racks.lasts(0, 230), LampRacks.NOT_POSSIBLE);
        Check.due("bad before dead", racks.lasts(0, 0), LampRacks.BAD_VALUE);
    }

    private static void promise24Reason() {
        LampRacks racks = new LampRacks();
        racks.setBatch(0, 10, 0);
        racks.put(2, 0, 0);
        racks.put(2, 1, 1);
        Check.due("burns", racks.reason(0), 0);
        racks.setVolts(2, 0);
        Check.due("dark", racks.reason(0), 3);
        racks.takeOut(2, 0);
        Check.due("in no rack", racks.reason(0), 2);
        racks.undo();
        racks.setVolts(2, 1);
        Check.due("burns at 1 volt", racks.reason(0), 0);
        racks.setVolts(2, 230);
        racks.pass(10);
        Check.due("dead", racks.reason(0), 1);
        Check.due("burns", racks.reason(1), 0);
        racks.setVolts(2, 0);
        Check.due("dead, and dark", racks.reason(0), 1);
        racks.takeOut(2, 0);
        Check.due("dead, and out", racks.reason(0), 1);
        Check.due("lamp below", racks.reason(-1), LampRacks.UNKNOWN);
        Check.due("lamp above", racks.reason(2), LampRacks.UNKNOWN);
    }

    private static void nextDue(LampRacks racks, int lamp, int hours) {
        Check.due("next(0)", racks.next(0), lamp);
        Check.due("next(1)", racks.next(1), hours);
    }

    private static void promise25Next() {
        LampRacks racks = new LampRacks();
        nextDue(racks, LampRacks.NONE, LampRacks.NONE);
        racks.setBatch(0, 40, 0);
        racks.put(2, 0, 0);
        nextDue(racks, 0, 40);
        racks.put(1, 0, 0);
        nextDue(racks, 0, 40);
        racks.put(0, 3, 0);
        nextDue(racks, 2, 37);
        Check.due("nothing is done by it", racks.count(0), 0);
        Check.due("nothing is done by it", racks.count(4), 0);
        racks.pass(36);
        nextDue(racks, 2, 1);
        racks.pass(1);
        nextDue(racks, 0, 3);
        racks.setVolts(2, 0);
        nextDue(racks, 1, 3);
        racks.takeOut(1, 0);
        nextDue(racks, LampRacks.NONE, LampRacks.NONE);
        Check.due("below", racks.next(-1), LampRacks.BAD_VALUE);
        Check.due("above", racks.next(2), LampRacks.BAD_VALUE);
    }

    private static void promise25NextWithSteps() {
        LampRacks racks = new LampRacks();
        racks.setBatch(0, 40, 0);
        racks.put(0, 0, 0);
        racks.put(1, 0, 0);
        racks.setVolts(1, 0);
        racks.setSteps(1, 2, 50);
        racks.setSteps(0, 5, -5);
        nextDue(racks, 1, 17);
        racks.setSteps(0, 5, 50);
        nextDue(racks, 0, 11);
        racks.pass(10);
        nextDue(racks, 0, 1);
        Check.due("it does end then", racks.pass(1), 1);
        Check.due("dead", racks.lamp(0, 8), 11);
        racks.setSteps(1, 0, 0);
        racks.setVolts(1, 0);
        nextDue(racks, LampRacks.NONE, LampRacks.NONE);
    }

    private static void promise25NextWithin3000Hours() {
        LampRacks racks = new LampRacks();
        racks.setBatch(0, 3001, 0);
        racks.put(0, 0, 0);
        nextDue(racks, LampRacks.NONE, LampRacks.NONE);
        racks.pass(1);
        nextDue(racks, 0, 3000);
        racks.put(0, 3, 0);
        nextDue(racks, 1, 2729);
    }

    private static void promise26Count() {
        LampRacks racks = new LampRacks();
        racks.setBatch(0, 10, 0);
        for (int lamp = 0; lamp < 8; lamp++) {
            racks.put(0, lamp, lamp < 2 ? 0 : 1);
        }
        racks.put(1, 0, 1);
        racks.put(1, 1, 1);
        racks.takeOut(0, 2);
        racks.takeOut(0, 6);
        racks.setVolts(1, 0);
        racks.pass(12);
        racks.set(0, 240);
        racks.set(1, 20);
        racks.undo();
        racks.type('t');
        racks.type('t');
        int[] due = {12, 10, 8, 4, 2, 1, 20 + 4 * 12, 200 + 2 * 120 + 2 * 132, 240, 10, 3, 2};
        for (int what = 0; what < due.length; what++) {
            Check.due("count(" + what + ")", racks.count(what), due[what]);
        }
        Check.due("below", racks.count(-1), LampRacks.BAD_VALUE);
        Check.due("above", racks.count(12), LampRacks.BAD_VALUE);
        Check.due("extreme", racks.count(Integer.MAX_VALUE), LampRacks.BAD_VALUE);
        int burned = 0;
        int wear = 0;
        for (int lamp = 0; lamp < 10; lamp++) {
            burned += racks.lamp(lamp, 5);
            wear += racks.lamp(lamp, 4);
        }
        Check.due("hours add up", racks.count(6), burned);
        Check.due("wear adds up", racks.count(7), wear);
        LampRacks few = new LampRacks();
        for (int lamp = 0; lamp < 7; lamp++) {
            few.put(1, lamp, 0);
        }
        Check.due("no weak one yet", few.count(5), 0);
        Check.due("all burn", few.count(3), 7);
        few.put(1, 7, 0);
        Check.due("the weak one", few.count(5), 1);
    }
}
