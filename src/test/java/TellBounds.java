/** The sentences of promises 17 to 26. */
final class TellBounds extends Bounds {
    private TellBounds() {
    }

    static void run() {
        promise17Places();
        promise17Wear();
        promise17Ends();
        promise18Lamps();
        promise18Steps();
        promise19();
        promise20Counts();
        promise20MiddleAndDoubt();
        promise20Answers();
        promise21();
        promise22();
        promise23();
        promise23Answers();
        promise24();
        promise25();
        promise25Within3000Hours();
        promise26Lamps();
        promise26Others();
    }

    private static void promise17Places() {
        sentence("Promise 17", "`int lamp(int lamp, int what)`: - `lamp`: a lamp");
        rangeDue(0, 3, UNKNOWN, lamp -> inUse().lamp(lamp, 0));
        LampRacks undone = inUse();
        undone.put(0, 1, 0);
        due("lamp 4", undone.lamp(4, 0), 0);
        undone.undo();
        due("lamp 4, undone", undone.lamp(4, 0), UNKNOWN);

        sentence("Promise 17", "`what`: 0 for its batch,");
        for (int batch = 0; batch <= 5; batch++) {
            LampRacks racks = new LampRacks();
            racks.put(1, 1, batch);
            due("batch", racks.lamp(0, 0), batch);
        }

        sentence("Promise 17", "1 for its rack, 2 for its place (both NONE if it is in none),");
        LampRacks racks = new LampRacks();
        racks.put(0, 7, 0);
        racks.put(2, 0, 0);
        due("rack 0", racks.lamp(0, 1), 0);
        due("place 7", racks.lamp(0, 2), 7);
        due("rack 2", racks.lamp(1, 1), 2);
        due("place 0", racks.lamp(1, 2), 0);
        racks.takeOut(0, 7);
        due("rack of one that is out", racks.lamp(0, 1), NONE);
        due("place of one that is out", racks.lamp(0, 2), NONE);
        LampRacks dead = inUse();
        due("rack of a dead one", dead.lamp(0, 1), 0);
        due("place of a dead one", dead.lamp(0, 2), 0);
        dead.takeOut(0, 0);
        due("rack of a dead one that is out", dead.lamp(0, 1), NONE);

        sentence("Promise 17", "3 for what it can last,");
        due("batch 0", inUse().lamp(0, 3), 20);
        due("batch 1, share 7", inUse().lamp(1, 3), 930);
        due("batch 2, share 4", inUse().lamp(2, 3), 920);
    }

    private static void promise17Wear() {
        sentence("Promise 17", "4 for its wear,");
        due("the dead one", inUse().lamp(0, 4), 200);
        due("the hot one", inUse().lamp(1, 4), 23 * 11);
        due("the hot one, by steps", inUse().lamp(2, 4), 7 * 11 + 16);
        due("the one that is out", inUse().lamp(3, 4), 0);

        sentence("Promise 17", "5 for the hours that it burned,");
        due("the dead one", inUse().lamp(0, 5), 20);
        due("the hot one", inUse().lamp(1, 5), 23);
        due("the one that is out", inUse().lamp(3, 5), 0);

        sentence("Promise 17", "6 for what its hours count,");
        due("the dead one", inUse().lamp(0, 6), 20);
        due("253 / 10", inUse().lamp(1, 6), 25);
        due("93 / 10", inUse().lamp(2, 6), 9);
        due("the one that is out", inUse().lamp(3, 6), 0);
    }

    private static void promise17Ends() {
        sentence("Promise 17", "7 for whether it is dead (1, otherwise 0),");
        LampRacks racks = new LampRacks();
        racks.setBatch(0, 10, 0);
        racks.put(0, 0, 0);
        racks.pass(9);
        due("wear 90 of 100", racks.lamp(0, 7), 0);
        racks.pass(1);
        due("wear 100 of 100", racks.lamp(0, 7), 1);

        sentence("Promise 17", "8 for the hour at the end of which it ended (NONE if it is not dead),");
        LampRacks ends = new LampRacks();
        ends.pass(5);
        ends.setBatch(0, 10, 0);
        ends.put(0, 0, 0);
        ends.pass(9);
        due("not dead", ends.lamp(0, 8), NONE);
        ends.pass(100);
        due("dead since the hour 15", ends.lamp(0, 8), 15);
        LampRacks first = withLamps(7);
        first.setBatch(0, 10, 0);
        first.put(0, 0, 0);
        first.pass(50);
        due("ended in the first hour", first.lamp(7, 8), 1);
        LampRacks last = atHour(99989);
        last.setBatch(0, 10, 0);
        last.put(0, 0, 0);
        last.pass(10);
        due("ended in the last hour", last.lamp(0, 8), 99999);

        sentence("Promise 17", "9 for whether it is weak (1, otherwise 0)");
        LampRacks weak = withLamps(20);
        for (int lamp = 0; lamp < 20; lamp++) {
            due("lamp " + lamp, weak.lamp(lamp, 9), lamp % 10 == 7 ? 1 : 0);
        }

        sentence("Promise 17", "Returns the number;");
        int[] told = {1, 0, 3, 930, 253, 23, 25, 0, NONE, 0};
        for (int what = 0; what <= 9; what++) {
            due("lamp(1, " + what + ")", inUse().lamp(1, what), told[what]);
        }

        sentence("Promise 17", "UNKNOWN;");
        refusedDue(UNKNOWN, used -> used.lamp(-1, 0));
        refusedDue(UNKNOWN, used -> used.lamp(4, 0));
        refusedDue(UNKNOWN, used -> used.lamp(4, 10));
        due("the 61st", withLamps(60).lamp(60, 0), UNKNOWN);
        due("none put in", new LampRacks().lamp(0, 0), UNKNOWN);

        sentence("Promise 17", "BAD_VALUE.");
        rangeDue(0, 9, BAD_VALUE, what -> inUse().lamp(0, what));
        refusedDue(BAD_VALUE, used -> used.lamp(3, 10));
    }

    private static void promise18Lamps() {
        sentence("Promise 18", "`int rack(int rack, int what)`: - `rack`: 0 to 2");
        rangeDue(0, 2, UNKNOWN, rack -> new LampRacks().rack(rack, 0));

        sentence("Promise 18", "`what`: 0 for its volts,");
        due("rack 0", inUse().rack(0, 0), 230);
        due("rack 1, stepped", inUse().rack(1, 0), 170);
        due("rack 2, dark", inUse().rack(2, 0), 0);

        sentence("Promise 18", "1 for lamps in it, 2 for those that are not dead,");
        due("lamps in rack 0", inUse().rack(0, 1), 2);
        due("not dead in rack 0", inUse().rack(0, 2), 1);
        due("lamps in rack 2, where one was taken out", inUse().rack(2, 1), 0);
        due("not dead in rack 2", inUse().rack(2, 2), 0);
        LampRacks full = new LampRacks();
        full.setBatch(1, 10, 0);
        for (int place = 0; place <= 7; place++) {
            full.put(2, place, 1);
        }
        due("lamps in a full one", full.rack(2, 1), 8);
        due("not dead in a full one", full.rack(2, 2), 8);
        due("lamps in another", full.rack(1, 1), 0);
        full.pass(10);
        due("lamps in one where all are dead", full.rack(2, 1), 8);
        due("not dead in one where all are dead", full.rack(2, 2), 0);

        sentence("Promise 18", "3 for the wear of an hour, 4 for that on a hot place (both 0 if it is dark),");
        LampRacks racks = new LampRacks();
        int[] volts = {300, 239, 231, 229, 222, 221, 1, 0};
        int[] wear = {80, 19, 11, 9, 2, 1, 1, 0};
        int[] hotWear = {88, 20, 12, 9, 2, 1, 1, 0};
        for (int index = 0; index < volts.length; index++) {
            racks.setVolts(1, volts[index]);
            due("wear at " + volts[index], racks.rack(1, 3), wear[index]);
            due("wear at " + volts[index] + " on a hot place", racks.rack(1, 4), hotWear[index]);
        }
        racks.set(0, 100);
        due("dark at other settings", racks.rack(1, 3), 0);
        due("dark at other settings, on a hot place", racks.rack(1, 4), 0);
    }

    private static void promise18Steps() {
        sentence("Promise 18", "5 for the hours of its steps, 6 for the volts of these,");
        due("hours at first", new LampRacks().rack(0, 5), 0);
        due("volts at first", new LampRacks().rack(0, 6), 0);
        LampRacks steps = new LampRacks();
        steps.setSteps(0, 99, 50);
        steps.setSteps(2, 1, -50);
        due("the most hours", steps.rack(0, 5), 99);
        due("the most volts", steps.rack(0, 6), 50);
        due("the least hours", steps.rack(2, 5), 1);
        due("the least volts", steps.rack(2, 6), -50);
        due("hours of another", steps.rack(1, 5), 0);

        sentence("Promise 18", "7 for in how many hours the next one is (NONE without steps)");
        LampRacks racks = new LampRacks();
        due("at first", racks.rack(1, 7), NONE);
        racks.setSteps(1, 3, 1);
        int[] hours = {3, 2, 1, 3, 2, 1, 3};
        for (int passed = 0; passed < hours.length; passed++) {
            due("after " + passed + " hours", racks.rack(1, 7), hours[passed]);
            racks.pass(1);
        }
        racks.setSteps(1, 0, 1);
        due("set to none", racks.rack(1, 7), NONE);
        racks.setSteps(1, 1, 0);
        racks.pass(5);
        due("each hour", racks.rack(1, 7), 1);
        racks.setSteps(1, 99, -1);
        racks.pass(98);
        due("after 98 of 99 hours", racks.rack(1, 7), 1);
        racks.pass(1);
        due("after 99 of 99 hours", racks.rack(1, 7), 99);

        sentence("Promise 18", "Returns the number (6 may be below 0);");
        int[] told = {170, 1, 1, 1, 1, 7, -20, 5};
        for (int what = 0; what <= 7; what++) {
            due("rack(1, " + what + ")", inUse().rack(1, what), told[what]);
        }

        sentence("Promise 18", "UNKNOWN;");
        refusedDue(UNKNOWN, used -> used.rack(-1, 0));
        refusedDue(UNKNOWN, used -> used.rack(3, 0));
        refusedDue(UNKNOWN, used -> used.rack(3, 8));

        sentence("Promise 18", "BAD_VALUE.");
        rangeDue(0, 7, BAD_VALUE, what -> inUse().rack(2, what));
        refusedDue(BAD_VALUE, used -> used.rack(0, 8));
    }

    private static void promise19() {
        sentence("Promise 19", "`int at(int rack, int place)`: - `rack`: 0 to 2");
        rangeDue(0, 2, UNKNOWN, rack -> new LampRacks().at(rack, 0));

        sentence("Promise 19", "`place`: 0 to 7");
        rangeDue(0, 7, UNKNOWN, place -> new LampRacks().at(1, place));

        sentence("Promise 19", "Returns the lamp there;");
        due("a dead one, number 0", inUse().at(0, 0), 0);
        due("one that burns", inUse().at(1, 4), 2);
        LampRacks full = new LampRacks();
        for (int lamp = 0; lamp < 24; lamp++) {
            full.put(lamp / 8, lamp % 8, 0);
        }
        for (int lamp = 0; lamp < 24; lamp++) {
            due("full racks", full.at(lamp / 8, lamp % 8), lamp);
        }

        sentence("Promise 19", "UNKNOWN (rack or place);");
        refusedDue(UNKNOWN, used -> used.at(-1, 0));
        refusedDue(UNKNOWN, used -> used.at(3, 0));
        refusedDue(UNKNOWN, used -> used.at(2, -4));
        refusedDue(UNKNOWN, used -> used.at(0, 12));

        sentence("Promise 19", "NONE without one.");
        refusedDue(NONE, used -> used.at(0, 1));
        due("where one was taken out", inUse().at(2, 5), NONE);
    }

    /** Of batch 2, whose life is 20 then: lamps 0 and 1 dead after 20 hours, one in the dark, one out. */
    private static LampRacks batchOfFour() {
        LampRacks racks = new LampRacks();
        racks.setBatch(2, 20, 0);
        Check.performText(racks, "p00:2;p01:2;p10:2;v1:0;p20:2;t20;p22:1");
        racks.pass(20);
        return racks;
    }

    private static void promise20Counts() {
        sentence("Promise 20", "`int batch(int batch, int what)`: - `batch`: 0 to 5");
        rangeDue(0, 5, UNKNOWN, batch -> new LampRacks().batch(batch, 0));

        sentence("Promise 20", "`what`: 0 for its life, 1 for its spread,");
        due("first life", new LampRacks().batch(5, 0), 1000);
        due("first spread", new LampRacks().batch(5, 1), 50);
        LampRacks racks = new LampRacks();
        racks.setBatch(0, 9999, 90);
        racks.setBatch(5, 10, 0);
        due("the longest life", racks.batch(0, 0), 9999);
        due("the greatest spread", racks.batch(0, 1), 90);
        due("the shortest life", racks.batch(5, 0), 10);
        due("the least spread", racks.batch(5, 1), 0);

        sentence("Promise 20", "2 for lamps of it that were put in, 3 for those that are dead,");
        due("put in", batchOfFour().batch(2, 2), 4);
        due("dead", batchOfFour().batch(2, 3), 2);
        due("put in of another", batchOfFour().batch(1, 2), 1);
        due("dead of another", batchOfFour().batch(1, 3), 0);
        due("none put in", batchOfFour().batch(0, 2), 0);
        due("60 put in", withLamps(60).batch(0, 2), 60);
        LampRacks out = batchOfFour();
        out.takeOut(0, 0);
        due("dead, and taken out", out.batch(2, 3), 2);

        sentence("Promise 20", "4 for those that are dead, and whose hours count less than the half of its life "
                + "as it is now, rounded down,");
        LampRacks early = batchOfFour();
        due("20 of 20", early.batch(2, 4), 0);
        early.setBatch(2, 40, 0);
        due("20 of 40: not less than the half", early.batch(2, 4), 0);
        early.setBatch(2, 41, 0);
        due("20 of 41: not less than 20", early.batch(2, 4), 0);
        early.setBatch(2, 42, 0);
        due("20 of 42: less than 21", early.batch(2, 4), 2);
        early.setBatch(2, 9999, 0);
        due("those that are not dead do not count", early.batch(2, 4), 2);
        due("of another", early.batch(1, 4), 0);
    }

    private static void promise20MiddleAndDoubt() {
        sentence("Promise 20", "5 for its middle life,");
        due("2 of 4", batchOfFour().batch(2, 5), 20);
        LampRacks more = batchOfFour();
        more.setVolts(1, 300);
        more.pass(10);
        due("3 of 4: the second", more.batch(2, 5), 20);
        more.put(0, 7, 2);
        due("3 of 5: the third, which wore 240", more.batch(2, 5), 24);

        sentence("Promise 20", "6 for whether it is doubtful (1, otherwise 0)");
        LampRacks racks = batchOfFour();
        due("0 of 2 early", racks.batch(2, 6), 0);
        racks.setBatch(2, 10, 0);
        racks.put(0, 7, 2);
        racks.put(0, 6, 2);
        racks.pass(10);
        due("dead", racks.batch(2, 3), 4);
        racks.setBatch(2, 40, 0);
        due("2 of 4 early: just the half", racks.batch(2, 6), 0);
        racks.setBatch(2, 42, 0);
        due("4 of 4 early", racks.batch(2, 6), 1);
        due("none dead", racks.batch(1, 6), 0);
        due("none put in", racks.batch(0, 6), 0);
    }

    private static void promise20Answers() {
        sentence("Promise 20", "Returns the number;");
        int[] told = {20, 0, 4, 2, 0, 20, 0};
        for (int what = 0; what <= 6; what++) {
            due("batch(2, " + what + ")", batchOfFour().batch(2, what), told[what]);
        }

        sentence("Promise 20", "UNKNOWN;");
        refusedDue(UNKNOWN, used -> used.batch(-1, 0));
        refusedDue(UNKNOWN, used -> used.batch(6, 5));
        refusedDue(UNKNOWN, used -> used.batch(6, 7));

        sentence("Promise 20", "BAD_VALUE;");
        rangeDue(0, 6, BAD_VALUE, what -> batchOfFour().batch(2, what));
        refusedDue(BAD_VALUE, used -> used.batch(5, 7));

        sentence("Promise 20", "NONE for 5, if fewer than the half of its lamps are dead, or it has none.");
        LampRacks racks = batchOfFour();
        due("2 of 4", racks.batch(2, 5), 20);
        racks.put(0, 7, 2);
        due("2 of 5", racks.batch(2, 5), NONE);
        due("0 of 1", racks.batch(1, 5), NONE);
        due("0 of 0", racks.batch(0, 5), NONE);
        refusedDue(NONE, used -> used.batch(1, 5));
    }

    private static void promise21() {
        sentence("Promise 21", "`int lasted(int batch, int hours)`: Tells the curve of ends: "
                + "how many lamps of a batch are known to have lasted for so many hours: "
                + "those whose hours count as many, or more.");
        LampRacks racks = batchOfFour();
        racks.put(0, 7, 2);
        racks.setVolts(0, 229);
        racks.pass(6);
        due("dead ones, one that wore 54, and two that never burned, for 0 hours", racks.lasted(2, 0), 5);
        due("for 1 hour", racks.lasted(2, 1), 3);
        due("for 5 hours: 5.4 count 5", racks.lasted(2, 5), 3);
        due("for 6 hours, which it burned", racks.lasted(2, 6), 2);
        due("for 20 hours", racks.lasted(2, 20), 2);
        due("for 21 hours", racks.lasted(2, 21), 0);
        due("another batch, for 26 hours", racks.lasted(1, 26), 1);
        due("another batch, for 27 hours", racks.lasted(1, 27), 0);
        due("none put in", racks.lasted(0, 0), 0);

        sentence("Promise 21", "`batch`: 0 to 5");
        rangeDue(0, 5, UNKNOWN, batch -> new LampRacks().lasted(batch, 0));

        sentence("Promise 21", "`hours`: 0 to 99999");
        rangeDue(0, 99999, BAD_VALUE, hours -> new LampRacks().lasted(0, hours));

        sentence("Promise 21", "Returns how many;");
        due("60", withLamps(60).lasted(0, 0), 60);
        due("none", withLamps(60).lasted(0, 99999), 0);

        sentence("Promise 21", "UNKNOWN;");
        refusedDue(UNKNOWN, used -> used.lasted(-1, 0));
        refusedDue(UNKNOWN, used -> used.lasted(6, -1));

        sentence("Promise 21", "BAD_VALUE.");
        refusedDue(BAD_VALUE, used -> used.lasted(0, -1));
        refusedDue(BAD_VALUE, used -> used.lasted(5, 100000));
    }

    private static void promise22() {
        sentence("Promise 22", "`int ended(int rank)`: Tells the ends in their order: "
                + "by the hours at which they were, of one hour by the numbers of the lamps.");
        LampRacks racks = new LampRacks();
        int[] lives = {30, 20, 30, 10, 20, 20};
        for (int lamp = 0; lamp < lives.length; lamp++) {
            racks.setBatch(0, lives[lamp], 0);
            racks.put(2 - lamp % 3, 7 - lamp / 3, 0);
        }
        racks.pass(100);
        racks.takeOut(2, 6);
        int[] order = {3, 1, 4, 5, 0, 2};
        for (int rank = 0; rank < order.length; rank++) {
            due("ended(" + rank + ")", racks.ended(rank), order[rank]);
        }
        LampRacks wear = new LampRacks();
        wear.setBatch(0, 12, 0);
        Check.performText(wear, "p00:0;p10:0;v1:300;.12");
        due("after 2 hours, which count as 16", wear.ended(0), 1);
        due("after 12 hours, which count as 12", wear.ended(1), 0);

        sentence("Promise 22", "`rank`: a rank, from 0");
        due("0", racks.ended(0), 3);
        due("-1", racks.ended(-1), BAD_VALUE);

        sentence("Promise 22", "Returns the lamp;");
        due("lamp 0", inUse().ended(0), 0);

        sentence("Promise 22", "BAD_VALUE if rank is negative;");
        refusedDue(BAD_VALUE, used -> used.ended(-1));
        refusedDue(BAD_VALUE, used -> used.ended(Integer.MIN_VALUE));
        due("none ended", new LampRacks().ended(-1), BAD_VALUE);

        sentence("Promise 22", "NONE if there are not so many.");
        due("the last", racks.ended(5), 2);
        due("behind the last", racks.ended(6), NONE);
        due("far behind it", racks.ended(Integer.MAX_VALUE), NONE);
        due("none ended", new LampRacks().ended(0), NONE);
        refusedDue(NONE, used -> used.ended(1));
    }

    /** Lamps that can last 50 hours and wore 100 in 10: lamp 0 on place 5, lamp 1 on place 2, lamp 2 out. */
    private static LampRacks worn() {
        LampRacks racks = new LampRacks();
        racks.setBatch(0, 50, 0);
        Check.performText(racks, "p05:0;p02:0;p10:0;.10;t10");
        return racks;
    }

    private static void promise23() {
        sentence("Promise 23", "`int lasts(int lamp, int volts)`: Tells for how many hours a lamp would last "
                + "from now on at some volts, on its place (on one that is not hot, if it is in none).");
        due("at the volts that are", worn().lasts(0, 230), 40);
        due("at 1 volt", worn().lasts(0, 1), 400);
        due("at 300 volts", worn().lasts(0, 300), 5);
        due("in none", worn().lasts(2, 240), 20);
        LampRacks hot = worn();
        hot.swap(0, 5, 0, 4);
        due("on place 4", hot.lasts(0, 230), 37);
        hot.swap(0, 4, 2, 3);
        due("on place 3", hot.lasts(0, 230), 37);
        hot.takeOut(2, 3);
        due("taken out of place 3", hot.lasts(0, 230), 40);
        LampRacks dark = worn();
        dark.setVolts(0, 0);
        dark.setSteps(0, 1, 50);
        due("in the dark, with steps", dark.lasts(0, 230), 40);
        dark.set(0, 210);
        due("with other wanted volts", dark.lasts(0, 230), 14);

        sentence("Promise 23", "`lamp`: a lamp");
        rangeDue(0, 2, UNKNOWN, lamp -> worn().lasts(lamp, 230));

        sentence("Promise 23", "`volts`: 1 to 300");
        rangeDue(1, 300, BAD_VALUE, volts -> worn().lasts(0, volts));
    }

    private static void promise23Answers() {
        sentence("Promise 23", "Returns how many, rounded up;");
        due("400 by 10", worn().lasts(0, 230), 40);
        due("400 by 11", worn().lasts(0, 231), 37);
        due("400 by 9", worn().lasts(0, 229), 45);
        due("400 by 20", worn().lasts(0, 240), 20);
        due("400 by 21", worn().lasts(0, 241), 20);
        due("400 by 19", worn().lasts(0, 239), 22);
        LampRacks last = worn();
        last.pass(39);
        due("10 by 80", last.lasts(0, 300), 1);
        due("10 by 10", last.lasts(0, 230), 1);
        due("10 by 9", last.lasts(0, 229), 2);
        LampRacks longest = new LampRacks();
        longest.setBatch(0, 9999, 0);
        longest.put(0, 0, 0);
        due("99990 by 1", longest.lasts(0, 1), 99990);

        sentence("Promise 23", "UNKNOWN;");
        refusedDue(UNKNOWN, used -> used.lasts(-1, 230));
        refusedDue(UNKNOWN, used -> used.lasts(4, 0));

        sentence("Promise 23", "BAD_VALUE;");
        refusedDue(BAD_VALUE, used -> used.lasts(1, 0));
        refusedDue(BAD_VALUE, used -> used.lasts(1, 301));
        refusedDue(BAD_VALUE, used -> used.lasts(0, 301));

        sentence("Promise 23", "NOT_POSSIBLE if it is dead.");
        refusedDue(NOT_POSSIBLE, used -> used.lasts(0, 230));
        LampRacks ends = worn();
        ends.pass(39);
        due("an hour before its end", ends.lasts(0, 230), 1);
        ends.pass(1);
        due("at its end", ends.lasts(0, 230), NOT_POSSIBLE);
        ends.takeOut(0, 5);
        due("dead, and in no rack", ends.lasts(0, 1), NOT_POSSIBLE);
    }

    private static void promise24() {
        sentence("Promise 24", "`int reason(int lamp)`: Tells why a lamp does not burn.");
        LampRacks racks = inUse();
        due("dead", racks.reason(0), 1);
        due("in no rack", racks.reason(3), 2);
        racks.swap(1, 4, 2, 7);
        due("in a dark rack", racks.reason(2), 3);
        int burned = racks.lamp(2, 5);
        racks.pass(1);
        due("hours burned in a dark rack", racks.lamp(2, 5), burned);

        sentence("Promise 24", "`lamp`: a lamp");
        rangeDue(0, 3, UNKNOWN, lamp -> inUse().reason(lamp));

        sentence("Promise 24", "Returns 0 if it does;");
        due("at 230 volts", inUse().reason(1), 0);
        LampRacks least = inUse();
        least.setVolts(0, 1);
        due("at 1 volt", least.reason(1), 0);

        sentence("Promise 24", "the first that holds: 1 it is dead, 2 it is in no rack, 3 its rack is dark;");
        LampRacks first = inUse();
        first.setVolts(0, 0);
        due("dead, and its rack is dark", first.reason(0), 1);
        due("its rack is dark", first.reason(1), 3);
        first.takeOut(0, 0);
        due("dead, and in no rack", first.reason(0), 1);
        first.takeOut(0, 3);
        due("in no rack, and the one where it was is dark", first.reason(1), 2);

        sentence("Promise 24", "UNKNOWN.");
        refusedDue(UNKNOWN, used -> used.reason(-1));
        refusedDue(UNKNOWN, used -> used.reason(4));
        due("none put in", new LampRacks().reason(0), UNKNOWN);
    }

    private static void nextDue(LampRacks racks, int lamp, int hours) {
        due("next(0)", racks.next(0), lamp);
        due("next(1)", racks.next(1), hours);
    }

    private static void promise25() {
        sentence("Promise 25", "`int next(int what)`: Finds the lamp that ends next, if nothing else is done, "
                + "of several the one with the lowest number.");
        LampRacks racks = new LampRacks();
        racks.setBatch(0, 40, 0);
        Check.performText(racks, "p20:0;p10:0;p00:0;v0:229");
        nextDue(racks, 0, 40);
        racks.takeOut(2, 0);
        nextDue(racks, 1, 40);
        racks.setVolts(0, 240);
        nextDue(racks, 2, 20);
        racks.setVolts(0, 0);
        nextDue(racks, 1, 40);
        racks.setSteps(1, 20, 50);
        nextDue(racks, 1, 24);
        racks.pass(23);
        nextDue(racks, 1, 1);
        String before = Everything.told(racks);
        racks.next(0);
        same("next(0) changes nothing", Everything.told(racks), before);
        racks.pass(1);
        due("it ends", racks.lamp(1, 8), 24);
        nextDue(racks, NONE, NONE);
        LampRacks lit = new LampRacks();
        lit.setBatch(0, 10, 0);
        Check.performText(lit, "p00:0;v0:0;s0:99+1");
        nextDue(lit, 0, 99 + 99 + 1);
        LampRacks hot = new LampRacks();
        hot.setBatch(0, 11, 0);
        Check.performText(hot, "p00:0;p04:0");
        nextDue(hot, 1, 10);

        sentence("Promise 25", "`what`: 0 for the lamp, 1 for in how many hours");
        due("the lamp", worn().next(0), 0);
        due("in how many hours", worn().next(1), 40);

        sentence("Promise 25", "Returns the number;");
        due("lamp 1", hot.next(0), 1);
        due("10 hours", hot.next(1), 10);

        sentence("Promise 25", "BAD_VALUE;");
        rangeDue(0, 1, BAD_VALUE, what -> worn().next(what));
        rangeDue(0, 1, BAD_VALUE, what -> new LampRacks().next(what));
        refusedDue(BAD_VALUE, used -> used.next(2));
    }

    private static void promise25Within3000Hours() {
        sentence("Promise 25", "NONE if none ends within 3000 hours.");
        LampRacks racks = lasting3001();
        nextDue(racks, NONE, NONE);
        racks.pass(1);
        nextDue(racks, 0, 3000);
        nextDue(new LampRacks(), NONE, NONE);
        LampRacks dark = worn();
        dark.setVolts(0, 0);
        nextDue(dark, NONE, NONE);
        LampRacks dead = worn();
        dead.pass(40);
        nextDue(dead, NONE, NONE);
        refusedDue(NONE, TellBounds::lasting3001, used -> used.next(0));
    }

    /** One lamp, which can last an hour more than next() looks ahead. */
    private static LampRacks lasting3001() {
        LampRacks racks = new LampRacks();
        racks.setBatch(0, 3001, 0);
        racks.put(0, 0, 0);
        return racks;
    }

    private static void promise26Lamps() {
        sentence("Promise 26", "`int count(int what)`: - `what`: 0 for the hour,");
        due("at first", new LampRacks().count(0), 0);
        due("the last", atHour(99999).count(0), 99999);

        sentence("Promise 26", "1 for lamps that were put in, 2 for those in racks, 3 for those that burn,");
        due("put in at first", new LampRacks().count(1), 0);
        due("put in", inUse().count(1), 4);
        due("in racks, a dead one with them", inUse().count(2), 3);
        due("that burn", inUse().count(3), 2);
        due("that burn, lamp 0 with them", worn().count(3), 2);
        due("put in at most", withLamps(60).count(1), 60);
        due("in racks, all taken out", withLamps(60).count(2), 0);
        due("that burn, all taken out", withLamps(60).count(3), 0);
        LampRacks dark = inUse();
        dark.setVolts(0, 0);
        due("that burn, with rack 0 dark", dark.count(3), 1);
        due("in racks, with rack 0 dark", dark.count(2), 3);

        sentence("Promise 26", "4 for those that are dead,");
        due("at first", new LampRacks().count(4), 0);
        due("one", inUse().count(4), 1);
        LampRacks out = inUse();
        out.takeOut(0, 0);
        due("dead, and out", out.count(4), 1);

        sentence("Promise 26", "5 for weak ones,");
        due("of 7", withLamps(7).count(5), 0);
        due("of 8", withLamps(8).count(5), 1);
        due("of 17", withLamps(17).count(5), 1);
        due("of 60", withLamps(60).count(5), 6);
    }

    private static void promise26Others() {
        sentence("Promise 26", "6 for hours that lamps burned so far, together, 7 for their wear together,");
        due("hours at first", new LampRacks().count(6), 0);
        due("wear at first", new LampRacks().count(7), 0);
        due("hours", inUse().count(6), 20 + 23 + 23);
        due("wear", inUse().count(7), 200 + 253 + 93);
        LampRacks out = inUse();
        out.takeOut(0, 0);
        out.takeOut(0, 3);
        due("hours, with lamps out", out.count(6), 66);
        due("wear, with lamps out", out.count(7), 546);

        sentence("Promise 26", "8 and 9 for the settings,");
        due("wanted at first", new LampRacks().count(8), 230);
        due("doubling at first", new LampRacks().count(9), 10);
        LampRacks set = new LampRacks();
        set.set(0, 300);
        set.set(1, 1);
        due("wanted", set.count(8), 300);
        due("doubling", set.count(9), 1);

        sentence("Promise 26", "10 for the states in the history,");
        due("at first", new LampRacks().count(10), 0);
        due("3", inUse().count(10), 3);
        due("at most", withLamps(60).count(10), 4);

        sentence("Promise 26", "11 for the length of the text");
        due("at first", new LampRacks().count(11), 0);
        LampRacks text = new LampRacks();
        Check.typeText(text, "x".repeat(61));
        due("at most", text.count(11), 60);

        sentence("Promise 26", "Returns the number;");
        int[] told = {23, 4, 3, 2, 1, 0, 66, 546, 230, 10, 3, 8};
        for (int what = 0; what <= 11; what++) {
            due("count(" + what + ")", inUse().count(what), told[what]);
        }

        sentence("Promise 26", "BAD_VALUE.");
        rangeDue(0, 11, BAD_VALUE, what -> inUse().count(what));
        refusedDue(BAD_VALUE, used -> used.count(-1));
        refusedDue(BAD_VALUE, used -> used.count(12));
    }
}
