import java.util.Arrays;

/** The sentences of the terms "RACKS, WEAR" and "SETTINGS". */
final class WearTermsBounds extends Bounds {
    private static final String SECTION = "RACKS, WEAR";

    private WearTermsBounds() {
    }

    static void run() {
        racksAndPlaces();
        voltsAndDark();
        whatBurns();
        wearOfAnHour();
        hotPlaces();
        whenLampsAreDead();
        hoursThatCount();
        middleLife();
        doubtful();
        steps();
        stepsStayWithinLimits();
        settings();
    }

    private static void racksAndPlaces() {
        sentence(SECTION, "There are 3 racks, 0 to 2,");
        LampRacks racks = new LampRacks();
        due("lamps of rack -1", racks.rack(-1, 1), UNKNOWN);
        due("lamps of rack 0", racks.rack(0, 1), 0);
        due("lamps of rack 2", racks.rack(2, 1), 0);
        due("lamps of rack 3", racks.rack(3, 1), UNKNOWN);

        sentence(SECTION, "each with 8 places, 0 to 7,");
        for (int rack = 0; rack <= 2; rack++) {
            due("place -1", racks.put(rack, -1, 0), UNKNOWN);
            due("place 8", racks.put(rack, 8, 0), UNKNOWN);
            for (int place = 0; place <= 7; place++) {
                due("place " + place, racks.put(rack, place, 0), 8 * rack + place);
            }
            due("lamps", racks.rack(rack, 1), 8);
        }
    }

    private static void voltsAndDark() {
        sentence(SECTION, "and volts (0 to 300; 230 at first);");
        for (int rack = 0; rack <= 2; rack++) {
            LampRacks racks = new LampRacks();
            due("first volts", racks.rack(rack, 0), 230);
            due("-1 volts", racks.setVolts(rack, -1), BAD_VALUE);
            due("0 volts", racks.setVolts(rack, 0), 230);
            due("300 volts", racks.setVolts(rack, 300), 0);
            due("301 volts", racks.setVolts(rack, 301), BAD_VALUE);
            due("volts", racks.rack(rack, 0), 300);
        }

        sentence(SECTION, "with 0 volts it is dark.");
        LampRacks racks = new LampRacks();
        racks.put(1, 1, 0);
        racks.setVolts(1, 1);
        due("with 1 volt it burns", racks.reason(0), 0);
        racks.setVolts(1, 0);
        due("with 0 volts it is dark", racks.reason(0), 3);
        racks.pass(50);
        due("burned", racks.lamp(0, 5), 0);
        due("wear", racks.lamp(0, 4), 0);
    }

    private static void whatBurns() {
        sentence(SECTION, "In each hour in which a rack is not dark, "
                + "each lamp in it that is not dead burns an hour,");
        LampRacks racks = new LampRacks();
        racks.setBatch(0, 10, 0);
        Check.performText(racks, "p00:0;p07:1;p10:1;p20:1;p27:1;t27;v1:0;v2:1");
        racks.pass(10);
        racks.pass(1);
        due("dead after 10 hours", racks.lamp(0, 5), 10);
        due("in rack 0", racks.lamp(1, 5), 11);
        due("in the dark rack 1", racks.lamp(2, 5), 0);
        due("in rack 2, with 1 volt", racks.lamp(3, 5), 11);
        due("in none", racks.lamp(4, 5), 0);
        due("the dead one wears no more", racks.lamp(0, 4), 100);
        due("in none, wear", racks.lamp(4, 4), 0);
    }

    /** The wear of an hour on a place that is not hot, as rack() tells it and as a lamp has it. */
    private static void wearDue(int volts, int wanted, int doubling, int wear) {
        LampRacks racks = new LampRacks();
        racks.set(0, wanted);
        racks.set(1, doubling);
        racks.setVolts(0, volts);
        racks.put(0, 0, 0);
        String name = volts + " volts, " + wanted + " wanted, doubled by " + doubling;
        due(name, racks.rack(0, 3), wear);
        racks.pass(1);
        due(name + ": wear of a lamp", racks.lamp(0, 4), wear);
    }

    private static void wearOfAnHour() {
        sentence(SECTION, "Wear is counted in tenths of an hour.");
        wearDue(230, 230, 10, 10);

        sentence(SECTION, "and wears by 10, and by 10 times (the volts less the setting 0), "
                + "divided by the setting 1, rounded towards 0, together;");
        wearDue(231, 230, 11, 10);
        wearDue(231, 230, 10, 11);
        wearDue(232, 230, 11, 11);
        wearDue(229, 230, 11, 10);
        wearDue(229, 230, 10, 9);
        wearDue(228, 230, 11, 9);
        wearDue(300, 100, 1, 2010);
        wearDue(300, 100, 100, 30);
        wearDue(300, 300, 1, 10);
        wearDue(220, 300, 100, 2);

        sentence(SECTION, "but at least by 1.");
        wearDue(221, 230, 10, 1);
        wearDue(220, 230, 10, 1);
        wearDue(219, 230, 10, 1);
        wearDue(100, 300, 100, 1);
        wearDue(1, 300, 1, 1);
        wearDue(222, 230, 10, 2);
    }

    /** The wear of a lamp on each place, after an hour at such volts. */
    private static void wearOnPlacesDue(int volts, int wear, int hotWear) {
        LampRacks racks = new LampRacks();
        racks.setVolts(1, volts);
        for (int place = 0; place <= 7; place++) {
            racks.put(1, place, 0);
        }
        racks.pass(1);
        for (int place = 0; place <= 7; place++) {
            boolean hot = place == 3 || place == 4;
            due(volts + " volts on place " + place, racks.lamp(place, 4), hot ? hotWear : wear);
        }
        due(volts + " volts on a hot place", racks.rack(1, 4), hotWear);
    }

    private static void hotPlaces() {
        sentence(SECTION, "On the places 3 and 4, which are hot, it wears by a tenth of that more, rounded down.");
        wearOnPlacesDue(1, 1, 1);
        wearOnPlacesDue(229, 9, 9);
        wearOnPlacesDue(230, 10, 11);
        wearOnPlacesDue(239, 19, 20);
        wearOnPlacesDue(240, 20, 22);
        wearOnPlacesDue(300, 80, 88);
        wearOnPlacesDue(0, 0, 0);
    }

    private static void whenLampsAreDead() {
        sentence(SECTION, "A lamp whose wear is 10 times what it can last, or more, is dead from then on.");
        LampRacks just = new LampRacks();
        just.setBatch(0, 11, 0);
        just.put(0, 0, 0);
        just.pass(10);
        just.setVolts(0, 229);
        just.pass(1);
        due("wear", just.lamp(0, 4), 109);
        due("one tenth less: not dead", just.lamp(0, 7), 0);
        just.setVolts(0, 1);
        due("one tenth more: it ends", just.pass(1), 1);
        due("wear", just.lamp(0, 4), 110);
        due("just as much: dead", just.lamp(0, 7), 1);
        due("end", just.lamp(0, 8), 12);
        LampRacks more = new LampRacks();
        more.setBatch(0, 10, 0);
        more.put(0, 0, 0);
        more.pass(9);
        more.setVolts(0, 300);
        due("it ends", more.pass(1), 1);
        due("more: wear", more.lamp(0, 4), 170);
        due("more: dead", more.lamp(0, 7), 1);
        more.setBatch(0, 9999, 0);
        more.swap(0, 0, 2, 2);
        more.pass(5);
        due("from then on", more.lamp(0, 7), 1);
        due("from then on: wear", more.lamp(0, 4), 170);
        more.takeOut(2, 2);
        due("out of its rack, too", more.lamp(0, 7), 1);
    }

    private static void hoursThatCount() {
        sentence(SECTION, "Its hours count as its wear, divided by 10, rounded down.");
        LampRacks racks = new LampRacks();
        racks.put(0, 0, 0);
        due("wear 0", racks.lamp(0, 6), 0);
        racks.setVolts(0, 229);
        racks.pass(1);
        due("wear 9", racks.lamp(0, 6), 0);
        racks.setVolts(0, 1);
        racks.pass(1);
        due("wear 10", racks.lamp(0, 6), 1);
        racks.setVolts(0, 229);
        racks.pass(1);
        due("wear 19", racks.lamp(0, 6), 1);
        racks.setVolts(0, 1);
        racks.pass(1);
        due("wear 20", racks.lamp(0, 6), 2);
        due("burned", racks.lamp(0, 5), 4);
    }

    /** Lamps of batch 0 that last so many hours, all on places that are not hot. */
    private static LampRacks withLives(int... lives) {
        LampRacks racks = new LampRacks();
        int[] places = {0, 1, 2, 5, 6, 7};
        for (int lamp = 0; lamp < lives.length; lamp++) {
            racks.setBatch(0, lives[lamp], 0);
            racks.put(lamp / places.length, places[lamp % places.length], 0);
        }
        return racks;
    }

    private static void middleLife() {
        sentence(SECTION, "The middle life of a batch is what the hours of the lamp count that was the one "
                + "by whose end at least the half of all lamps of the batch were dead,");
        LampRacks half = withLives(40, 10, 30, 20);
        half.pass(19);
        due("1 of 4 dead", half.batch(0, 5), NONE);
        half.pass(1);
        due("2 of 4 dead, just the half", half.batch(0, 5), 20);
        half.pass(20);
        due("4 of 4 dead", half.batch(0, 5), 20);
        half.put(2, 0, 0);
        due("4 of 5 dead: the third", half.batch(0, 5), 30);
        LampRacks odd = withLives(30, 10, 20);
        odd.pass(10);
        due("1 of 3 dead, less than the half", odd.batch(0, 5), NONE);
        odd.pass(10);
        due("2 of 3 dead, more than the half", odd.batch(0, 5), 20);

        sentence(SECTION, "if dead ones are told by what their hours count, the least first");
        LampRacks racks = new LampRacks();
        racks.setBatch(0, 50, 0);
        racks.put(0, 0, 0);
        racks.setBatch(0, 10, 0);
        racks.put(1, 0, 0);
        racks.setVolts(0, 300);
        racks.pass(10);
        due("56 hours count of lamp 0, which ended first", racks.lamp(0, 6), 56);
        due("ended first", racks.ended(0), 0);
        due("the least is that of lamp 1", racks.batch(0, 5), 10);

        sentence(SECTION, "(of n lamps the one at the place n / 2, rounded up, counted from 1).");
        int[] lives = {60, 50, 40, 30, 20, 10};
        int[] middles = {60, 50, 50, 40, 40, 30};
        for (int lamps = 1; lamps <= 6; lamps++) {
            LampRacks few = withLives(Arrays.copyOf(lives, lamps));
            few.pass(60);
            due("all dead of " + lamps, few.batch(0, 5), middles[lamps - 1]);
        }
        LampRacks none = new LampRacks();
        none.put(0, 0, 1);
        due("of no lamps", none.batch(0, 5), NONE);
        LampRacks ties = withLives(10, 10, 10, 20);
        ties.pass(20);
        due("of ones that count alike", ties.batch(0, 5), 10);
    }

    private static void doubtful() {
        sentence(SECTION, "A batch is doubtful, if more than the half of its dead lamps have hours that count "
                + "less than the half of its life as it is now, rounded down.");
        due("none dead", withLives(10).batch(0, 6), 0);
        LampRacks half = withLives(10, 10, 50, 50, 90);
        half.pass(50);
        half.setBatch(0, 40, 0);
        due("2 of 4 dead ones: just the half", half.batch(0, 6), 0);
        half.setBatch(0, 100, 0);
        due("2 of 4: 50 is not less than 50", half.batch(0, 6), 0);
        half.setBatch(0, 101, 0);
        due("2 of 4: 50 is not less than 101 / 2, rounded down", half.batch(0, 6), 0);
        half.setBatch(0, 102, 0);
        due("4 of 4: 50 is less than 51", half.batch(0, 6), 1);
        LampRacks more = withLives(10, 10, 50);
        more.pass(50);
        more.setBatch(0, 40, 0);
        due("2 of 3: more than the half", more.batch(0, 6), 1);
        more.setBatch(0, 21, 0);
        due("0 of 3: 10 is not less than 21 / 2, rounded down", more.batch(0, 6), 0);
        more.setBatch(0, 22, 0);
        due("2 of 3: 10 is less than 11", more.batch(0, 6), 1);
        LampRacks alive = withLives(10, 10, 50, 90, 90, 90);
        alive.pass(50);
        alive.setBatch(0, 40, 0);
        due("2 of 3 dead ones, of 6 lamps in all", alive.batch(0, 6), 1);
        LampRacks one = withLives(10, 50, 50);
        one.pass(50);
        one.setBatch(0, 40, 0);
        due("1 of 3: less than the half", one.batch(0, 6), 0);
    }

    private static void steps() {
        sentence(SECTION, "A rack can have steps: each time a number of hours has passed since they were set, "
                + "its volts change by a number of volts, at the end of that hour;");
        LampRacks racks = new LampRacks();
        racks.put(2, 0, 0);
        due("none at first", racks.rack(2, 5), 0);
        racks.pass(2);
        racks.setSteps(2, 3, 10);
        racks.pass(2);
        due("2 hours passed", racks.rack(2, 0), 230);
        racks.pass(1);
        due("3 hours passed", racks.rack(2, 0), 240);
        due("the hour before the change wears as before it", racks.lamp(0, 4), 50);
        racks.pass(2);
        due("5 hours passed", racks.rack(2, 0), 240);
        due("those after it wear by the new volts", racks.lamp(0, 4), 90);
        racks.pass(7);
        due("12 hours passed", racks.rack(2, 0), 270);
        due("wear", racks.lamp(0, 4), 50 + 3 * 20 + 3 * 30 + 3 * 40);
        due("another rack", racks.rack(1, 0), 230);
        LampRacks eachHour = new LampRacks();
        eachHour.put(1, 0, 0);
        eachHour.setSteps(1, 1, 10);
        eachHour.pass(3);
        due("3 hours, each with a step", eachHour.rack(1, 0), 260);
        due("wear by steps of an hour", eachHour.lamp(0, 4), 10 + 20 + 30);
        LampRacks dark = new LampRacks();
        dark.put(0, 0, 0);
        dark.setVolts(0, 0);
        dark.setSteps(0, 4, 1);
        dark.pass(4);
        due("dark till the end of the fourth hour", dark.lamp(0, 5), 0);
        due("reason", dark.reason(0), 0);
        dark.pass(1);
        due("burned", dark.lamp(0, 5), 1);
    }

    private static void stepsStayWithinLimits() {
        sentence(SECTION, "but they stay within 0 to 300.");
        LampRacks racks = new LampRacks();
        racks.setVolts(0, 299);
        racks.setVolts(1, 1);
        racks.setVolts(2, 250);
        racks.setSteps(0, 1, 1);
        racks.setSteps(1, 1, -1);
        racks.setSteps(2, 1, 50);
        racks.pass(1);
        due("299 and 1", racks.rack(0, 0), 300);
        due("1 less 1", racks.rack(1, 0), 0);
        due("250 and 50", racks.rack(2, 0), 300);
        racks.pass(1);
        due("300 and 1", racks.rack(0, 0), 300);
        due("0 less 1", racks.rack(1, 0), 0);
        due("300 and 50", racks.rack(2, 0), 300);
        racks.setVolts(2, 49);
        racks.setSteps(2, 1, -50);
        racks.pass(1);
        due("49 less 50", racks.rack(2, 0), 0);
        racks.setVolts(2, 251);
        racks.setSteps(2, 9, 50);
        racks.pass(9);
        due("251 and 50", racks.rack(2, 0), 300);
        racks.pass(990);
        due("300, after many steps", racks.rack(2, 0), 300);
        racks.setSteps(2, 9, -50);
        racks.pass(9);
        due("300 less 50: nothing beyond the limit is kept", racks.rack(2, 0), 250);
        LampRacks turned = new LampRacks();
        turned.setSteps(0, 7, 50);
        turned.pass(700 + 3);
        due("in how many hours, at the limit", turned.rack(0, 7), 4);
        turned.setVolts(0, 10);
        turned.pass(4);
        due("they step on from other volts", turned.rack(0, 0), 60);
    }

    private static void settings() {
        sentence("SETTINGS", "(In parentheses: range; first value.) 0: the wanted volts (100 to 300; 230);");
        LampRacks wanted = new LampRacks();
        due("first", wanted.count(8), 230);
        due("99", wanted.set(0, 99), BAD_VALUE);
        due("100", wanted.set(0, 100), 230);
        due("300", wanted.set(0, 300), 100);
        due("301", wanted.set(0, 301), BAD_VALUE);
        due("now", wanted.count(8), 300);
        wanted.setVolts(0, 300);
        due("wear at the wanted volts", wanted.rack(0, 3), 10);

        sentence("SETTINGS", "1: the volts by which the wear is doubled (1 to 100; 10).");
        LampRacks doubling = new LampRacks();
        due("first", doubling.count(9), 10);
        due("0", doubling.set(1, 0), BAD_VALUE);
        due("1", doubling.set(1, 1), 10);
        doubling.setVolts(0, 231);
        due("wear, doubled by 1", doubling.rack(0, 3), 20);
        due("100", doubling.set(1, 100), 1);
        doubling.set(0, 200);
        doubling.setVolts(0, 300);
        due("wear, doubled by 100", doubling.rack(0, 3), 20);
        due("101", doubling.set(1, 101), BAD_VALUE);
        due("now", doubling.count(9), 100);
    }
}
