/** The sentences of promises 1 to 9. */
final class ActBounds extends Bounds {
    private ActBounds() {
    }

    static void run() {
        promise1();
        promise2();
        promise2Answers();
        promise3();
        promise3Answers();
        promise4();
        promise5();
        promise5Answers();
        promise6();
        promise7();
        promise7Answers();
        promise8();
        promise9();
    }

    private static void promise1() {
        sentence("Promise 1", "`LampRacks()`: Creates empty racks at 230 volts, at the hour 0.");
        inUse();
        LampRacks racks = new LampRacks();
        for (int rack = 0; rack <= 2; rack++) {
            for (int place = 0; place <= 7; place++) {
                due("place " + place + " of " + rack, racks.at(rack, place), NONE);
            }
            due("lamps", racks.rack(rack, 1), 0);
            due("volts", racks.rack(rack, 0), 230);
        }
        due("lamps", racks.count(1), 0);
        due("hour", racks.count(0), 0);
    }

    private static void promise2() {
        sentence("Promise 2", "`int setBatch(int batch, int life, int spread)`: "
                + "Sets the life and the spread of a batch.");
        for (int batch = 0; batch <= 5; batch++) {
            LampRacks racks = new LampRacks();
            racks.setBatch(batch, 10, 90);
            for (int other = 0; other <= 5; other++) {
                due("life of " + other, racks.batch(other, 0), other == batch ? 10 : 1000);
                due("spread of " + other, racks.batch(other, 1), other == batch ? 90 : 10 * other);
            }
        }

        sentence("Promise 2", "This is an act.");
        actDue(racks -> racks.setBatch(1, 1000, 11));

        sentence("Promise 2", "`batch`: 0 to 5");
        rangeDue(0, 5, UNKNOWN, batch -> new LampRacks().setBatch(batch, 20, 5));

        sentence("Promise 2", "`life`: 10 to 9999");
        rangeDue(10, 9999, BAD_VALUE, life -> new LampRacks().setBatch(2, life, 5));

        sentence("Promise 2", "`spread`: 0 to 90");
        rangeDue(0, 90, BAD_VALUE, spread -> new LampRacks().setBatch(2, 500, spread));
    }

    private static void promise2Answers() {
        sentence("Promise 2", "Returns the previous life;");
        LampRacks racks = new LampRacks();
        due("the first", racks.setBatch(3, 10, 30), 1000);
        due("the least", racks.setBatch(3, 9999, 30), 10);
        due("the most, with another spread alone", racks.setBatch(3, 9999, 31), 9999);

        sentence("Promise 2", "UNKNOWN;");
        refusedDue(UNKNOWN, used -> used.setBatch(-1, 500, 5));
        refusedDue(UNKNOWN, used -> used.setBatch(6, 500, 5));
        refusedDue(UNKNOWN, used -> used.setBatch(6, 9, 91));
        refusedDue(UNKNOWN, used -> used.setBatch(-1, 0, -1));
        refusedDue(UNKNOWN, used -> used.setBatch(6, 10000, 50));

        sentence("Promise 2", "BAD_VALUE;");
        refusedDue(BAD_VALUE, used -> used.setBatch(1, 9, 50));
        refusedDue(BAD_VALUE, used -> used.setBatch(1, 10000, 50));
        refusedDue(BAD_VALUE, used -> used.setBatch(1, 500, -1));
        refusedDue(BAD_VALUE, used -> used.setBatch(1, 500, 91));
        refusedDue(BAD_VALUE, used -> used.setBatch(1, 1000, 91));

        sentence("Promise 2", "NONE if both are so already.");
        refusedDue(NONE, used -> used.setBatch(0, 20, 0));
        refusedDue(NONE, used -> used.setBatch(5, 1000, 50));
        due("the life alone", inUse().setBatch(0, 20, 1), 20);
        due("the spread alone", inUse().setBatch(0, 21, 0), 20);
    }

    private static void promise3() {
        sentence("Promise 3", "`int put(int rack, int place, int batch)`: Puts a new lamp in.");
        LampRacks racks = new LampRacks();
        racks.put(0, 0, 5);
        racks.put(2, 7, 0);
        due("first place", racks.at(0, 0), 0);
        due("last place", racks.at(2, 7), 1);
        int[] told = {0, 2, 7, 1000, 0, 0, 0, 0, NONE, 0};
        for (int what = 0; what < told.length; what++) {
            due("lamp(1, " + what + ")", racks.lamp(1, what), told[what]);
        }
        LampRacks anew = inUse();
        anew.undo();
        anew.undo();
        anew.put(1, 1, 4);
        due("wear of a new lamp with a number that another had", anew.lamp(0, 4), 0);
        due("hours that it burned", anew.lamp(0, 5), 0);
        due("dead", anew.lamp(0, 7), 0);

        sentence("Promise 3", "This is an act.");
        actDue(used -> used.put(2, 7, 5));

        sentence("Promise 3", "`rack`: 0 to 2");
        rangeDue(0, 2, UNKNOWN, rack -> new LampRacks().put(rack, 7, 0));

        sentence("Promise 3", "`place`: 0 to 7");
        rangeDue(0, 7, UNKNOWN, place -> new LampRacks().put(2, place, 0));

        sentence("Promise 3", "`batch`: 0 to 5");
        rangeDue(0, 5, UNKNOWN, batch -> new LampRacks().put(1, 1, batch));
    }

    private static void promise3Answers() {
        sentence("Promise 3", "Returns its number;");
        due("the first, on the last place", new LampRacks().put(2, 7, 5), 0);
        due("the 60th, on the first place", withLamps(59).put(0, 0, 0), 59);

        sentence("Promise 3", "UNKNOWN (rack, place or batch);");
        refusedDue(UNKNOWN, used -> used.put(-1, 1, 0));
        refusedDue(UNKNOWN, used -> used.put(3, 1, 0));
        refusedDue(UNKNOWN, used -> used.put(0, -1, 0));
        refusedDue(UNKNOWN, used -> used.put(0, 8, 0));
        refusedDue(UNKNOWN, used -> used.put(0, 1, -1));
        refusedDue(UNKNOWN, used -> used.put(0, 1, 6));
        due("on a place that is taken", inUse().put(0, 0, 6), UNKNOWN);
        due("with 60 put in", withLamps(60).put(0, 0, 6), UNKNOWN);

        sentence("Promise 3", "NOT_POSSIBLE if a lamp is there;");
        refusedDue(NOT_POSSIBLE, used -> used.put(0, 0, 0));
        refusedDue(NOT_POSSIBLE, used -> used.put(1, 4, 0));
        due("where one was taken out", inUse().put(2, 5, 0), 4);
        due("on the same place of another rack", inUse().put(2, 4, 0), 4);
        LampRacks full = withLamps(59);
        full.put(2, 7, 0);
        due("with 60 put in", full.put(2, 7, 0), NOT_POSSIBLE);

        sentence("Promise 3", "FULL if 60 were put in.");
        due("if 59 were", withLamps(59).put(1, 1, 0), 59);
        due("if 60 were", withLamps(60).put(1, 1, 0), FULL);
        refusedDue(FULL, () -> withLamps(60), used -> used.put(2, 7, 5));
        LampRacks undone = withLamps(60);
        undone.undo();
        undone.undo();
        due("if one of 60 is undone", undone.put(1, 1, 0), 59);
    }

    private static void promise4() {
        sentence("Promise 4", "`int takeOut(int rack, int place)`: Takes a lamp out.");
        LampRacks racks = inUse();
        racks.takeOut(1, 4);
        due("place", racks.at(1, 4), NONE);
        due("rack", racks.lamp(2, 1), NONE);
        due("another lamp", racks.at(0, 3), 1);
        int wear = racks.lamp(2, 4);
        racks.pass(9);
        due("it wears no more", racks.lamp(2, 4), wear);
        due("lamps put in", racks.count(1), 4);

        sentence("Promise 4", "This is an act.");
        actDue(used -> used.takeOut(0, 3));

        sentence("Promise 4", "`rack`: 0 to 2");
        rangeDue(0, 2, UNKNOWN, rack -> new LampRacks().takeOut(rack, 0));

        sentence("Promise 4", "`place`: 0 to 7");
        rangeDue(0, 7, UNKNOWN, place -> new LampRacks().takeOut(2, place));

        sentence("Promise 4", "Returns its number;");
        due("lamp 0, which is dead", inUse().takeOut(0, 0), 0);
        due("lamp 2", inUse().takeOut(1, 4), 2);
        actDue(used -> used.takeOut(0, 0));

        sentence("Promise 4", "UNKNOWN (rack or place);");
        refusedDue(UNKNOWN, used -> used.takeOut(-1, 0));
        refusedDue(UNKNOWN, used -> used.takeOut(3, 0));
        refusedDue(UNKNOWN, used -> used.takeOut(2, -4));
        refusedDue(UNKNOWN, used -> used.takeOut(0, 12));

        sentence("Promise 4", "NONE if no lamp is there.");
        refusedDue(NONE, used -> used.takeOut(0, 4));
        refusedDue(NONE, used -> used.takeOut(2, 5));
        LampRacks twice = inUse();
        twice.takeOut(0, 3);
        due("a lamp that is out", twice.takeOut(0, 3), NONE);
    }

    private static void promise5() {
        sentence("Promise 5", "`int swap(int rack, int place, int otherRack, int otherPlace)`: "
                + "Swaps what is at two places: lamps, or a lamp and nothing.");
        LampRacks racks = inUse();
        racks.swap(0, 3, 1, 4);
        due("lamp 2", racks.at(0, 3), 2);
        due("lamp 1", racks.at(1, 4), 1);
        due("rack of lamp 2", racks.lamp(2, 1), 0);
        due("place of lamp 2", racks.lamp(2, 2), 3);
        due("rack of lamp 1", racks.lamp(1, 1), 1);
        racks.swap(0, 0, 0, 1);
        due("the dead lamp", racks.at(0, 1), 0);
        due("nothing", racks.at(0, 0), NONE);
        racks.swap(2, 7, 0, 1);
        due("the dead lamp", racks.at(2, 7), 0);
        due("nothing", racks.at(0, 1), NONE);
        due("place of the dead lamp", racks.lamp(0, 2), 7);

        sentence("Promise 5", "This is an act.");
        actDue(used -> used.swap(0, 0, 1, 4));
        actDue(used -> used.swap(0, 0, 1, 7));
        actDue(used -> used.swap(2, 0, 0, 0));

        sentence("Promise 5", "`rack`: 0 to 2");
        rangeDue(0, 2, UNKNOWN, rack -> inUse().swap(rack, 0, 1, 4));

        sentence("Promise 5", "`place`: 0 to 7");
        rangeDue(0, 7, UNKNOWN, place -> inUse().swap(2, place, 1, 4));

        sentence("Promise 5", "`otherRack`: 0 to 2");
        rangeDue(0, 2, UNKNOWN, rack -> inUse().swap(1, 4, rack, 0));

        sentence("Promise 5", "`otherPlace`: 0 to 7");
        rangeDue(0, 7, UNKNOWN, place -> inUse().swap(1, 4, 2, place));
    }

    private static void promise5Answers() {
        sentence("Promise 5", "Returns how many lamps go to another place;");
        due("two lamps, one of them dead", inUse().swap(0, 0, 1, 4), 2);
        due("a lamp and nothing", inUse().swap(1, 4, 0, 1), 1);
        due("nothing and a lamp", inUse().swap(0, 1, 1, 4), 1);
        due("to the same place of another rack", inUse().swap(0, 0, 1, 0), 1);
        due("to another place of its rack", inUse().swap(0, 0, 0, 7), 1);

        sentence("Promise 5", "UNKNOWN (racks or places);");
        refusedDue(UNKNOWN, used -> used.swap(-1, 0, 1, 4));
        refusedDue(UNKNOWN, used -> used.swap(1, 8, 1, 4));
        refusedDue(UNKNOWN, used -> used.swap(1, 4, 3, 0));
        refusedDue(UNKNOWN, used -> used.swap(1, 4, 2, -1));
        refusedDue(UNKNOWN, used -> used.swap(3, 3, 3, 3));
        refusedDue(UNKNOWN, used -> used.swap(2, 0, 2, 8));

        sentence("Promise 5", "NONE if there are none, or both places are the same.");
        refusedDue(NONE, used -> used.swap(2, 0, 2, 5));
        refusedDue(NONE, used -> used.swap(2, 0, 1, 0));
        refusedDue(NONE, used -> used.swap(0, 0, 0, 0));
        refusedDue(NONE, used -> used.swap(1, 4, 1, 4));
        refusedDue(NONE, used -> used.swap(2, 7, 2, 7));
    }

    private static void promise6() {
        sentence("Promise 6", "`int setVolts(int rack, int volts)`: Sets the volts of a rack.");
        for (int rack = 0; rack <= 2; rack++) {
            LampRacks racks = new LampRacks();
            racks.setVolts(rack, 300);
            for (int other = 0; other <= 2; other++) {
                due("volts of " + other, racks.rack(other, 0), other == rack ? 300 : 230);
            }
        }
        LampRacks steps = inUse();
        steps.setVolts(1, 55);
        due("in how many hours the next step is, as before", steps.rack(1, 7), 5);

        sentence("Promise 6", "This is an act.");
        actDue(racks -> racks.setVolts(0, 0));
        actDue(racks -> racks.setVolts(2, 1));

        sentence("Promise 6", "`rack`: 0 to 2");
        rangeDue(0, 2, UNKNOWN, rack -> new LampRacks().setVolts(rack, 100));

        sentence("Promise 6", "`volts`: 0 to 300");
        rangeDue(0, 300, BAD_VALUE, volts -> new LampRacks().setVolts(1, volts));

        sentence("Promise 6", "Returns the previous ones;");
        LampRacks racks = new LampRacks();
        due("the first", racks.setVolts(2, 300), 230);
        due("the most", racks.setVolts(2, 0), 300);
        due("0, which is a number as others", racks.setVolts(2, 1), 0);
        due("those that a step set", inUse().setVolts(1, 1), 170);

        sentence("Promise 6", "UNKNOWN;");
        refusedDue(UNKNOWN, used -> used.setVolts(-1, 100));
        refusedDue(UNKNOWN, used -> used.setVolts(3, 301));

        sentence("Promise 6", "BAD_VALUE;");
        refusedDue(BAD_VALUE, used -> used.setVolts(0, -1));
        refusedDue(BAD_VALUE, used -> used.setVolts(0, 301));

        sentence("Promise 6", "NONE if they are so already.");
        refusedDue(NONE, used -> used.setVolts(0, 230));
        refusedDue(NONE, used -> used.setVolts(2, 0));
        refusedDue(NONE, used -> used.setVolts(1, 170));
    }

    private static void promise7() {
        sentence("Promise 7", "`int setSteps(int rack, int hours, int volts)`: Sets the steps of a rack;");
        LampRacks racks = new LampRacks();
        racks.setSteps(2, 4, -9);
        due("hours", racks.rack(2, 5), 4);
        due("volts", racks.rack(2, 6), -9);
        due("hours of another", racks.rack(1, 5), 0);
        racks.pass(4);
        due("stepped", racks.rack(2, 0), 221);
        due("another", racks.rack(1, 0), 230);

        sentence("Promise 7", "hours are counted anew for them.");
        LampRacks anew = inUse();
        due("2 of 7 hours are counted", anew.rack(1, 7), 5);
        anew.setSteps(1, 7, -20);
        due("none is counted", anew.rack(1, 7), 7);
        anew.pass(6);
        due("not yet", anew.rack(1, 0), 170);
        anew.pass(1);
        due("stepped", anew.rack(1, 0), 150);
        anew.pass(6);
        anew.setSteps(1, 0, 0);
        anew.setSteps(1, 7, -20);
        anew.pass(6);
        due("not yet, when they were set to none", anew.rack(1, 0), 150);

        sentence("Promise 7", "This is an act.");
        actDue(used -> used.setSteps(0, 5, 5));
        actDue(used -> used.setSteps(1, 7, -20));
        actDue(used -> used.setSteps(2, 0, 0));

        sentence("Promise 7", "`rack`: 0 to 2");
        rangeDue(0, 2, UNKNOWN, rack -> new LampRacks().setSteps(rack, 5, 5));

        sentence("Promise 7", "`hours`: 0 to 99: 0 for no steps");
        rangeDue(0, 99, BAD_VALUE, hours -> new LampRacks().setSteps(0, hours, 5));
        LampRacks none = inUse();
        none.setSteps(1, 0, 50);
        due("the next one", none.rack(1, 7), NONE);
        none.pass(200);
        due("volts", none.rack(1, 0), 170);
        LampRacks longest = new LampRacks();
        longest.setSteps(1, 99, 5);
        longest.pass(98);
        due("98 hours", longest.rack(1, 0), 230);
        longest.pass(1);
        due("99 hours", longest.rack(1, 0), 235);
    }

    private static void promise7Answers() {
        sentence("Promise 7", "`volts`: -50 to 50: by how much the volts change");
        rangeDue(-50, 50, BAD_VALUE, volts -> new LampRacks().setSteps(0, 9, volts));
        for (int volts : new int[] {-50, -1, 0, 1, 50}) {
            LampRacks racks = new LampRacks();
            racks.setSteps(0, 1, volts);
            racks.pass(1);
            due("volts, changed by " + volts, racks.rack(0, 0), 230 + volts);
        }

        sentence("Promise 7", "Returns the previous hours;");
        LampRacks racks = new LampRacks();
        due("none", racks.setSteps(0, 99, 1), 0);
        due("the most", racks.setSteps(0, 0, 1), 99);
        due("none again", racks.setSteps(0, 0, 1), 0);

        sentence("Promise 7", "UNKNOWN;");
        refusedDue(UNKNOWN, used -> used.setSteps(-1, 1, 1));
        refusedDue(UNKNOWN, used -> used.setSteps(3, 1, 1));
        refusedDue(UNKNOWN, used -> used.setSteps(3, 100, 51));

        sentence("Promise 7", "BAD_VALUE.");
        refusedDue(BAD_VALUE, used -> used.setSteps(1, -1, 1));
        refusedDue(BAD_VALUE, used -> used.setSteps(1, 100, 1));
        refusedDue(BAD_VALUE, used -> used.setSteps(1, 1, -51));
        refusedDue(BAD_VALUE, used -> used.setSteps(1, 1, 51));
        refusedDue(BAD_VALUE, used -> used.setSteps(1, 0, 51));
    }

    private static void promise8() {
        sentence("Promise 8", "`int set(int which, int value)`: Sets a setting.");
        LampRacks racks = new LampRacks();
        racks.set(0, 100);
        due("wanted", racks.count(8), 100);
        due("the other", racks.count(9), 10);
        racks.set(1, 100);
        due("doubling", racks.count(9), 100);
        due("the other", racks.count(8), 100);

        sentence("Promise 8", "This is an act.");
        actDue(used -> used.set(0, 300));
        actDue(used -> used.set(1, 1));

        sentence("Promise 8", "`which`: 0 or 1");
        rangeDue(0, 1, UNKNOWN, which -> new LampRacks().set(which, 100));

        sentence("Promise 8", "`value`: in its range");
        rangeDue(100, 300, BAD_VALUE, value -> new LampRacks().set(0, value));
        rangeDue(1, 100, BAD_VALUE, value -> new LampRacks().set(1, value));

        sentence("Promise 8", "Returns the previous one;");
        LampRacks previous = new LampRacks();
        due("the first", previous.set(0, 300), 230);
        due("the most", previous.set(0, 100), 300);
        due("the least", previous.set(0, 101), 100);
        due("the first", previous.set(1, 100), 10);
        due("the most", previous.set(1, 1), 100);
        due("the least", previous.set(1, 2), 1);

        sentence("Promise 8", "UNKNOWN;");
        refusedDue(UNKNOWN, used -> used.set(-1, 200));
        refusedDue(UNKNOWN, used -> used.set(2, 100));
        refusedDue(UNKNOWN, used -> used.set(2, 0));

        sentence("Promise 8", "BAD_VALUE;");
        refusedDue(BAD_VALUE, used -> used.set(0, 99));
        refusedDue(BAD_VALUE, used -> used.set(0, 301));
        refusedDue(BAD_VALUE, used -> used.set(1, 0));
        refusedDue(BAD_VALUE, used -> used.set(1, 101));

        sentence("Promise 8", "NONE if it is so already.");
        refusedDue(NONE, used -> used.set(0, 230));
        refusedDue(NONE, used -> used.set(1, 10));
    }

    private static void promise9() {
        sentence("Promise 9", "`int pass(int hours)`: Lets hours pass.");
        LampRacks racks = inUse();
        racks.pass(1);
        due("hour", racks.count(0), 24);
        racks.pass(999);
        due("hour", racks.count(0), 1023);
        due("volts, by 146 steps in all", racks.rack(1, 0), 0);
        due("burned", racks.lamp(2, 5), 84);

        sentence("Promise 9", "This is an act.");
        actDue(used -> used.pass(1));
        actDue(used -> used.pass(999));

        sentence("Promise 9", "`hours`: 1 to 999");
        rangeDue(1, 999, BAD_VALUE, hours -> new LampRacks().pass(hours));

        sentence("Promise 9", "Returns how many lamps end in them;");
        LampRacks ends = new LampRacks();
        ends.setBatch(0, 110, 0);
        Check.performText(ends, "p00:0;p02:0;p13:0;p14:0;p20:0;t20;p25:0;p26:0;p27:0;v2:0");
        due("the weak one, lamp 7, is in the dark: none", ends.pass(99), 0);
        due("the hot ones", ends.pass(1), 2);
        due("none", ends.pass(9), 0);
        due("those that are neither", ends.pass(1), 2);
        ends.setVolts(2, 230);
        due("the weak one", ends.pass(11), 1);
        due("all that are left in racks", ends.pass(999), 2);
        due("no more", ends.pass(999), 0);
        due("dead", ends.count(4), 7);
        LampRacks steps = new LampRacks();
        steps.setBatch(0, 20, 0);
        Check.performText(steps, "p00:0;p04:0;p10:0;s0:5-1;s1:2+10");
        due("all, between several steps of two racks", steps.pass(100), 3);

        sentence("Promise 9", "BAD_VALUE;");
        refusedDue(BAD_VALUE, used -> used.pass(0));
        refusedDue(BAD_VALUE, used -> used.pass(-1));
        refusedDue(BAD_VALUE, used -> used.pass(1000));
        due("with no hour left", atHour(99999).pass(0), BAD_VALUE);
        due("with no hour left", atHour(99999).pass(1000), BAD_VALUE);

        sentence("Promise 9", "FULL if the hour would be beyond 99999.");
        due("99000 and 999", atHour(99000).pass(999), 0);
        due("99001 and 999", atHour(99001).pass(999), FULL);
        due("99998 and 1", atHour(99998).pass(1), 0);
        due("99998 and 2", atHour(99998).pass(2), FULL);
        refusedDue(FULL, () -> atHour(99999), used -> used.pass(1));
        LampRacks last = atHour(99998);
        last.pass(1);
        due("hour", last.count(0), 99999);
    }
}
