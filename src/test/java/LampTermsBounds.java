/** The sentences of the terms "BATCHES, LAMPS". */
final class LampTermsBounds extends Bounds {
    private static final String SECTION = "BATCHES, LAMPS";

    private LampTermsBounds() {
    }

    static void run() {
        sixBatches();
        lifeAndSpreadOfBatches();
        numbersOfLamps();
        atMostSixtyLamps();
        shares();
        lossIsRoundedDown();
        weakOnesLastATenth();
        eachLastsAnHour();
        changedBatch();
    }

    private static void sixBatches() {
        sentence(SECTION, "There are 6 batches, 0 to 5.");
        LampRacks racks = new LampRacks();
        for (int batch = 0; batch <= 5; batch++) {
            due("lamps of batch " + batch, racks.batch(batch, 2), 0);
        }
        due("lamps of batch -1", racks.batch(-1, 2), UNKNOWN);
        due("lamps of batch 6", racks.batch(6, 2), UNKNOWN);
    }

    private static void lifeAndSpreadOfBatches() {
        sentence(SECTION, "A batch has a life (10 to 9999 hours; 1000 at first)");
        for (int batch = 0; batch <= 5; batch++) {
            due("first life of " + batch, new LampRacks().batch(batch, 0), 1000);
        }
        LampRacks lives = new LampRacks();
        due("life 9", lives.setBatch(3, 9, 30), BAD_VALUE);
        due("life 10", lives.setBatch(3, 10, 30), 1000);
        due("life 9999", lives.setBatch(3, 9999, 30), 10);
        due("life 10000", lives.setBatch(3, 10000, 30), BAD_VALUE);
        due("life", lives.batch(3, 0), 9999);

        sentence(SECTION, "and a spread (0 to 90; 10 times its number at first).");
        for (int batch = 0; batch <= 5; batch++) {
            due("first spread of " + batch, new LampRacks().batch(batch, 1), 10 * batch);
        }
        LampRacks spreads = new LampRacks();
        due("spread -1", spreads.setBatch(3, 1000, -1), BAD_VALUE);
        due("spread 0", spreads.setBatch(3, 1000, 0), 1000);
        due("spread", spreads.batch(3, 1), 0);
        due("spread 90", spreads.setBatch(3, 1000, 90), 1000);
        due("spread 91", spreads.setBatch(3, 1000, 91), BAD_VALUE);
        due("spread", spreads.batch(3, 1), 90);
    }

    private static void numbersOfLamps() {
        sentence(SECTION, "Lamps have numbers, from 0, in the order in which they were put in;");
        LampRacks racks = new LampRacks();
        due("no lamp 0 yet", racks.lamp(0, 0), UNKNOWN);
        due("the first", racks.put(2, 7, 5), 0);
        due("the second", racks.put(0, 0, 1), 1);
        racks.takeOut(2, 7);
        due("a number is not used again", racks.put(2, 7, 3), 2);
        due("batch of 0", racks.lamp(0, 0), 5);
        due("batch of 1", racks.lamp(1, 0), 1);
        due("batch of 2", racks.lamp(2, 0), 3);
        due("no lamp 3 yet", racks.lamp(3, 0), UNKNOWN);
        due("no lamp -1", racks.lamp(-1, 0), UNKNOWN);
        racks.undo();
        due("none of what is undone", racks.lamp(2, 0), UNKNOWN);
        due("the third once more", racks.put(1, 1, 4), 2);
        due("batch of 2", racks.lamp(2, 0), 4);
    }

    private static void atMostSixtyLamps() {
        sentence(SECTION, "at most 60 are put in ever.");
        LampRacks racks = withLamps(59);
        due("the 60th", racks.put(0, 0, 0), 59);
        due("the last one is known", racks.lamp(59, 1), 0);
        due("one more, elsewhere", racks.put(0, 1, 0), FULL);
        racks.takeOut(0, 0);
        due("one more, with all racks empty", racks.put(0, 0, 0), FULL);
        due("no lamp 60", racks.lamp(60, 0), UNKNOWN);
        due("lamps", racks.count(1), 60);
        racks.undo();
        racks.undo();
        due("the 60th again", racks.put(0, 1, 0), 59);
    }

    /** With a life of 1000 and a spread of 10, each tenth of the share takes ten hours. */
    private static void shares() {
        sentence(SECTION, "The lamp n has the share u, which is 7 * n modulo 10.");
        int[] shares = {0, 7, 4, 1, 8, 5, 2, 9, 6, 3};
        LampRacks racks = new LampRacks();
        for (int lamp = 0; lamp < 60; lamp++) {
            racks.put(1, 5, 1);
            racks.takeOut(1, 5);
            int share = shares[lamp % 10];
            due("lamp " + lamp + " can last", racks.lamp(lamp, 3), share == 9 ? 91 : 1000 - 10 * share);
        }
    }

    /** What the last one of so many lamps can last. */
    private static int lastOf(int lamps, int life, int spread) {
        LampRacks racks = withLamps(lamps - 1);
        racks.setBatch(5, life, spread);
        racks.put(0, 0, 5);
        return racks.lamp(lamps - 1, 3);
    }

    private static void lossIsRoundedDown() {
        sentence(SECTION, "What it can last is the life l of its batch, less (l times the spread times u, "
                + "divided by 1000, rounded down);");
        due("share 0", lastOf(1, 9999, 90), 9999);
        due("spread 0", lastOf(5, 9999, 0), 9999);
        due("37 * 27 * 1 is 999, loses 0", lastOf(4, 37, 27), 37);
        due("40 * 25 * 1 is 1000, loses 1", lastOf(4, 40, 25), 39);
        due("10 * 25 * 8 is 2000, loses 2", lastOf(5, 10, 25), 8);
        due("10 * 24 * 8 is 1920, loses 1", lastOf(5, 10, 24), 9);
        due("9999 * 90 * 8 is 7199280, loses 7199", lastOf(5, 9999, 90), 2800);
        due("10 * 90 * 8 is 7200, loses 7", lastOf(5, 10, 90), 3);
    }

    private static void weakOnesLastATenth() {
        sentence(SECTION, "if u is 9 it is weak, and lasts a tenth of that, rounded down;");
        due("109 / 10", lastOf(8, 109, 0), 10);
        due("110 / 10", lastOf(8, 110, 0), 11);
        due("119 / 10", lastOf(8, 119, 0), 11);
        due("9999 * 90 * 9 is 8099190, loses 8099: 1900 / 10", lastOf(8, 9999, 90), 190);
        due("share 8 is not weak", lastOf(5, 109, 0), 109);
        due("share 0 is not weak", lastOf(11, 109, 0), 109);
        due("the last weak one", lastOf(58, 109, 0), 10);
    }

    private static void eachLastsAnHour() {
        sentence(SECTION, "but each lasts at least 1 hour.");
        due("10 * 90 * 9 is 8100, loses 8: 2 / 10 would be 0", lastOf(8, 10, 90), 1);
        due("10 * 12 * 9 is 1080, loses 1: 9 / 10 would be 0", lastOf(8, 10, 12), 1);
        due("10 * 11 * 9 is 990, loses 0: 10 / 10", lastOf(8, 10, 11), 1);
        due("20 / 10", lastOf(8, 20, 0), 2);
    }

    private static void changedBatch() {
        sentence(SECTION, "(A batch that is changed does not change lamps that were put in.)");
        LampRacks racks = new LampRacks();
        racks.put(0, 0, 1);
        racks.put(0, 1, 1);
        racks.setBatch(1, 10, 90);
        due("lamp 0 can last", racks.lamp(0, 3), 1000);
        due("lamp 1 can last", racks.lamp(1, 3), 930);
        due("none ends", racks.pass(20), 0);
        due("lasts(0, 230)", racks.lasts(0, 230), 980);
        racks.put(0, 2, 1);
        due("lamp 2, put in then, can last", racks.lamp(2, 3), 7);
    }
}
