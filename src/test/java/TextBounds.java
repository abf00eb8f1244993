/** The sentences of the term "TEXTS", and of promises 10 to 13. */
final class TextBounds extends Bounds {
    private static final String TERMS = "TEXTS";

    private TextBounds() {
    }

    static void run() {
        textOfSixtyCharacters();
        thingsWithSemicolonsBetween();
        thingsOfLamps();
        thingsOfVoltsAndHours();
        digitsOfPlaces();
        numbers();
        faults();
        promise10();
        promise11();
        promise12All();
        promise12Stops();
        promise12Answers();
        promise13();
    }

    /** The text has its fault there, and nothing is done of it. */
    private static void faultDue(String text, int fault) {
        LampRacks racks = new LampRacks();
        due("perform() of \"" + text + "\"", Check.performText(racks, text), -1100 - fault);
        due("states by \"" + text + "\"", racks.count(10), 0);
        due("hour by \"" + text + "\"", racks.count(0), 0);
    }

    /** The text has no fault, and is done. */
    private static LampRacks doneDue(String text, int things) {
        LampRacks racks = new LampRacks();
        due("perform() of \"" + text + "\"", Check.performText(racks, text), things);
        return racks;
    }

    /** Of all characters behind the start, just these are allowed. */
    private static void allowedDue(String start, String allowed) {
        for (int sign = 0; sign < 400; sign++) {
            String text = start + (char) sign;
            int answer = Check.performText(new LampRacks(), text);
            boolean taken = answer != -1100 - start.length();
            due("character " + sign + " behind \"" + start + "\" is allowed", taken ? 1 : 0,
                    allowed.indexOf((char) sign) >= 0 ? 1 : 0);
        }
    }

    private static LampRacks withText(int length) {
        LampRacks racks = new LampRacks();
        for (int index = 0; index < length; index++) {
            racks.type('.');
        }
        return racks;
    }

    private static void textOfSixtyCharacters() {
        sentence(TERMS, "There is a text of at most 60 characters, empty at first.");
        due("length at first", new LampRacks().count(11), 0);
        LampRacks racks = withText(59);
        due("the 60th", racks.type('.'), 60);
        due("the 61st", racks.type('.'), FULL);
        due("length", racks.count(11), 60);
    }

    private static void thingsWithSemicolonsBetween() {
        sentence(TERMS, "A test is a text: one or more of these with \";\" between two:");
        faultDue("", 0);
        doneDue("t00", 1);
        doneDue("t00;t00", 2);
        doneDue("t00;".repeat(14) + ".9", 15);
        doneDue("t00" + ";.1".repeat(19), 20);
        faultDue(";", 0);
        faultDue(";t00", 0);
        faultDue("t00;", 4);
        faultDue("t00;;t00", 4);
        faultDue("t00t00", 3);
        faultDue("t00,t00", 3);
        allowedDue("", "ptvs.");
        allowedDue("t00", ";");
        allowedDue("t00;", "ptvs.");
    }

    private static void thingsOfLamps() {
        sentence(TERMS, "\"p\", a rack, a place, \":\" and a batch (a lamp is put in);");
        LampRacks put = doneDue("p27:5;p00:0", 2);
        due("lamp", put.at(2, 7), 0);
        due("batch", put.lamp(0, 0), 5);
        due("lamp", put.at(0, 0), 1);
        faultDue("p", 1);
        faultDue("p2", 2);
        faultDue("p27", 3);
        faultDue("p27:", 4);
        allowedDue("p00", ":");
        allowedDue("p00:0", ";");

        sentence(TERMS, "\"t\", a rack and a place (a lamp is taken out);");
        LampRacks taken = doneDue("p27:5;t27", 2);
        due("place", taken.at(2, 7), NONE);
        due("rack of the lamp", taken.lamp(0, 1), NONE);
        faultDue("t", 1);
        faultDue("t2", 2);
        allowedDue("t27", ";");
    }

    private static void thingsOfVoltsAndHours() {
        sentence(TERMS, "\"v\", a rack, \":\" and volts (0 to 300);");
        due("volts 0", doneDue("v2:0", 1).rack(2, 0), 0);
        due("volts 300", doneDue("v0:300", 1).rack(0, 0), 300);
        faultDue("v0:301", 5);
        faultDue("v0:-1", 3);
        faultDue("v", 1);
        faultDue("v0", 2);
        faultDue("v0:", 3);
        allowedDue("v0", ":");
        allowedDue("v0:", "0123456789");

        sentence(TERMS, "\"s\", a rack, \":\", hours (0 to 99), \"+\" or \"-\" and volts (0 to 50; steps);");
        LampRacks least = doneDue("s2:0+0", 1);
        due("hours 0", least.rack(2, 5), 0);
        LampRacks most = doneDue("s0:99+50", 1);
        due("hours 99", most.rack(0, 5), 99);
        due("volts 50", most.rack(0, 6), 50);
        LampRacks down = doneDue("s1:7-50;s0:8-0", 2);
        due("hours", down.rack(1, 5), 7);
        due("volts -50", down.rack(1, 6), -50);
        due("volts -0", down.rack(0, 6), 0);
        faultDue("s0:100+1", 5);
        faultDue("s0:9+51", 6);
        faultDue("s0:9-51", 6);
        faultDue("s", 1);
        faultDue("s0", 2);
        faultDue("s0:", 3);
        faultDue("s0:9", 4);
        faultDue("s0:9-", 5);
        allowedDue("s0", ":");
        allowedDue("s0:", "0123456789");
        allowedDue("s0:0", "+-");
        allowedDue("s0:99", "+-");
        allowedDue("s0:9+", "0123456789");
        allowedDue("s0:9-0", ";");

        sentence(TERMS, "\".\" and hours (1 to 999: they pass).");
        due("hour", doneDue(".1", 1).count(0), 1);
        due("hour", doneDue(".999", 1).count(0), 999);
        due("hour", doneDue(".999;.999;.1", 3).count(0), 1999);
        faultDue(".0", 1);
        faultDue(".1000", 4);
        faultDue(".", 1);
        allowedDue(".", "123456789");
    }

    private static void digitsOfPlaces() {
        sentence(TERMS, "A rack is a digit from 0 to 2,");
        for (String kind : new String[] {"p", "t", "v", "s"}) {
            allowedDue(kind, "012");
        }

        sentence(TERMS, "a place one from 0 to 7,");
        allowedDue("p0", "01234567");
        allowedDue("t2", "01234567");

        sentence(TERMS, "a batch one from 0 to 5.");
        allowedDue("p00:", "012345");
    }

    private static void numbers() {
        sentence(TERMS, "Numbers have no zero in front, unless they are the single digit 0;");
        due("0 alone", doneDue("v0:0;v1:0;s2:0+0", 3).rack(1, 0), 0);
        due("0 behind another digit", doneDue("v0:10;v1:200", 2).rack(1, 0), 200);
        faultDue("v0:00", 4);
        faultDue("v0:05", 4);
        faultDue("s0:05+1", 4);
        faultDue("s0:5+01", 6);
        faultDue("s0:5-00", 6);
        faultDue(".01", 1);
        allowedDue("v0:0", ";");
        allowedDue("s0:1+0", ";");

        sentence(TERMS, "a digit by which a number would be greater than told is not allowed.");
        allowedDue("v0:3", "0123456789;");
        allowedDue("v0:29", "0123456789;");
        allowedDue("v0:30", "0;");
        allowedDue("v0:31", ";");
        allowedDue("v0:300", ";");
        allowedDue("v0:100", ";");
        allowedDue("s0:9", "0123456789+-");
        allowedDue("s0:10", "+-");
        allowedDue("s0:1+4", "0123456789;");
        allowedDue("s0:1+5", "0;");
        allowedDue("s0:1-6", ";");
        allowedDue("s0:1-50", ";");
        allowedDue(".9", "0123456789;");
        allowedDue(".99", "0123456789;");
        allowedDue(".999", ";");
        allowedDue(".100", ";");
    }

    private static void faults() {
        sentence(TERMS, "The fault of the text is the index, from 0, of the first character "
                + "that is not allowed at its place,");
        faultDue("x", 0);
        faultDue("P00:0", 0);
        faultDue("t0x", 2);
        faultDue("t00;.1;v3:9;x", 8);
        faultDue("t00;.1;v2:9;x", 12);
        faultDue("t00;".repeat(14) + ".9x", 58);
        faultDue("t00;".repeat(14) + ".11x", 59);

        sentence(TERMS, "or the length of the text if it ends too early (the empty text does).");
        faultDue("", 0);
        faultDue("t00;s0:1", 8);
        faultDue("t00;".repeat(14) + "v0:", 59);
        faultDue("t00;".repeat(15), 60);
        LampRacks emptied = doneDue("t00", 1);
        emptied.clearText();
        due("perform() of an emptied text", emptied.perform(), -1100);
        emptied.type('t');
        due("what was behind the text is no part of it", emptied.perform(), -1101);
    }

    private static void promise10() {
        sentence("Promise 10", "`int type(char character)`: Types a character behind the text.");
        LampRacks racks = new LampRacks();
        racks.type('.');
        racks.type('2');
        racks.type('5');
        due("perform()", racks.perform(), 1);
        due("hour", racks.count(0), 25);

        sentence("Promise 10", "`character`: any character");
        LampRacks any = new LampRacks();
        char[] characters = {0, 9, 32, 127, 128, 255, 256, 0xd800, 0xffff};
        for (int index = 0; index < characters.length; index++) {
            due("type((char) " + (int) characters[index] + ")", any.type(characters[index]), index + 1);
        }
        due("length", any.count(11), characters.length);

        sentence("Promise 10", "Returns the length of the text then;");
        LampRacks lengths = new LampRacks();
        for (int length = 1; length <= 60; length++) {
            due("type('t')", lengths.type('t'), length);
        }
        due("no act", lengths.count(10), 0);

        sentence("Promise 10", "FULL if it has 60 characters.");
        due("the 60th", withText(59).type('x'), 60);
        due("the 61st", withText(60).type('x'), FULL);
        refusedDue(FULL, () -> withText(60), full -> full.type((char) 0xffff));
        LampRacks full = withText(60);
        full.type('x');
        full.clearText();
        due("emptied", full.type('x'), 1);
    }

    private static void promise11() {
        sentence("Promise 11", "`int clearText()`: Empties the text.");
        LampRacks racks = withText(60);
        racks.clearText();
        due("length", racks.count(11), 0);
        due("perform()", racks.perform(), -1100);
        due("type('t')", racks.type('t'), 1);
        due("no act", racks.count(10), 0);

        sentence("Promise 11", "Returns the length that it had.");
        due("of an empty one", new LampRacks().clearText(), 0);
        due("of one character", withText(1).clearText(), 1);
        due("of 60 characters", withText(60).clearText(), 60);
        LampRacks twice = withText(60);
        twice.clearText();
        due("of one that is emptied", twice.clearText(), 0);
    }

    private static void promise12All() {
        sentence("Promise 12", "`int perform()`: Does all that the test of the text, which stays, tells, "
                + "one after the other;");
        LampRacks racks = doneDue("p00:1;.3;v0:231;.2;t00;.1;s1:5+50", 7);
        due("wear", racks.lamp(0, 4), 30 + 22);
        due("the last one", racks.rack(1, 7), 5);
        due("length", racks.count(11), 33);
        due("hour", racks.count(0), 6);
        due("once more", racks.perform(), 7);
        due("hour", racks.count(0), 12);
        due("volts", racks.rack(1, 0), 280);

        sentence("Promise 12", "all of it, or nothing.");
        refusedButForStop(NOT_POSSIBLE, Bounds::inUse,
                used -> performThenRetype(used, "v2:9;s0:3-3;t03;.9;p03:0;p00:0"));
        LampRacks all = inUse();
        due("without the one that is stopped", Check.performText(all, "v2:9;s0:3-3;t03;.9;p03:0"), 5);
        due("hour", all.count(0), 32);
        due("lamp", all.at(0, 3), 4);

        sentence("Promise 12", "This is one act.");
        actDue(used -> performThenRetype(used, "t00;.5;v0:9"));
        actDue(used -> performThenRetype(used, "t27"));
        LampRacks one = doneDue("p00:0;p01:0;p02:0;p05:0;p06:0;p07:0", 6);
        due("states", one.count(10), 1);
        due("undo()", one.undo(), 0);
        due("lamps", one.count(1), 0);
    }

    private static void promise12Stops() {
        sentence("Promise 12", "What would return NONE does not stop it;");
        LampRacks none = doneDue("t00;.1;v0:230;.2;t27", 5);
        due("hour", none.count(0), 3);
        due("no stop", none.stopped(0), NONE);

        sentence("Promise 12", "what would return an error stops it.");
        LampRacks taken = new LampRacks();
        due("a place that is taken", Check.performText(taken, "p00:0;p00:1;t00"), NOT_POSSIBLE);
        due("nothing is put in", taken.count(1), 0);
        LampRacks full = withLamps(59);
        due("a lamp more than 60", Check.performText(full, "p00:0;p01:0;t00"), NOT_POSSIBLE);
        due("lamps", full.count(1), 59);
        due("the 60th alone", Check.performText(full, "p00:0;t00"), 2);
        LampRacks late = atHour(99990);
        due("an hour too late", Check.performText(late, ".9;.1;v0:5"), NOT_POSSIBLE);
        due("hour", late.count(0), 99990);
        due("the last hour", Check.performText(late, ".8;.1"), 2);
        due("hour", late.count(0), 99999);
    }

    private static void promise12Answers() {
        sentence("Promise 12", "Returns how many things the test has;");
        doneDue(".1", 1);
        doneDue(".1;t00", 2);
        doneDue("t00" + ";.1".repeat(19), 20);

        sentence("Promise 12", "-1100 minus the fault of the text if it has one (which is an error);");
        faultDue("", 0);
        faultDue(".1;t0", 5);
        faultDue("t00;".repeat(15), 60);
        refusedDue(-1105, used -> performThenRetype(used, "t00;.x"));
        refusedDue(-1108, used -> performThenRetype(used, ".9;p00:0:"));
        due("a fault comes before a stop", Check.performText(inUse(), "p00:0;p03:0;"), -1112);

        sentence("Promise 12", "NOT_POSSIBLE if any is stopped.");
        due("the only one", Check.performText(inUse(), "p00:0"), NOT_POSSIBLE);
        due("the first", Check.performText(inUse(), "p00:0;.1"), NOT_POSSIBLE);
        due("the last", Check.performText(inUse(), "t00" + ";.1".repeat(17) + ";p03:1"), NOT_POSSIBLE);
        due("by another error", Check.performText(withLamps(60), "p00:0"), NOT_POSSIBLE);
    }

    private static void promise13() {
        sentence("Promise 13", "`int stopped(int what)`: Tells of the latest stop of perform().");
        LampRacks racks = inUse();
        Check.performText(racks, "t00;.1;p14:0;p00:0");
        due("stopped(0)", racks.stopped(0), 2);
        Check.performText(racks, "t00;p00:0");
        Check.performText(racks, "t00;x");
        racks.put(0, 3, 0);
        racks.undo();
        racks.restore();
        racks.keep();
        due("stopped(0), after what stops no test", racks.stopped(0), 2);
        due("stopped(1), after what stops no test", racks.stopped(1), NOT_POSSIBLE);
        Check.performText(racks, "p00:0");
        due("stopped(0), after the next stop", racks.stopped(0), 0);

        sentence("Promise 13", "`what`: 0 for its number in the test, from 0,");
        LampRacks numbers = new LampRacks();
        numbers.put(0, 0, 0);
        Check.performText(numbers, "p00:0;p00:1");
        due("the first", numbers.stopped(0), 0);
        Check.performText(numbers, ".1;t22;p00:0");
        due("the third", numbers.stopped(0), 2);
        Check.performText(numbers, ".1;".repeat(18) + "p00:0");
        due("the 19th", numbers.stopped(0), 18);

        sentence("Promise 13", "1 for the error");
        LampRacks full = withLamps(60);
        Check.performText(full, "p00:0");
        due("a lamp too many", full.stopped(1), FULL);
        LampRacks late = atHour(99999);
        Check.performText(late, ".1");
        due("an hour too late", late.stopped(1), FULL);
        Check.performText(late, "p00:0;p00:0");
        due("a place that is taken", late.stopped(1), NOT_POSSIBLE);

        sentence("Promise 13", "Returns the number;");
        due("the second", late.stopped(0), 1);
        Check.performText(late, ".1");
        due("0, which is a number as others", late.stopped(0), 0);
        due("an error, which is told as a number", late.stopped(1), FULL);

        sentence("Promise 13", "BAD_VALUE;");
        rangeDue(0, 1, BAD_VALUE, what -> inUse().stopped(what));
        rangeDue(0, 1, BAD_VALUE, what -> new LampRacks().stopped(what));
        refusedDue(BAD_VALUE, used -> used.stopped(2));

        sentence("Promise 13", "NONE if nothing was stopped yet.");
        LampRacks none = new LampRacks();
        due("stopped(0)", none.stopped(0), NONE);
        due("stopped(1)", none.stopped(1), NONE);
        Check.performText(none, "t00;v0:230");
        Check.performText(none, "x");
        none.put(3, 0, 0);
        due("stopped(0), after NONE, a fault, and a refused call", none.stopped(0), NONE);
        due("stopped(1), after NONE, a fault, and a refused call", none.stopped(1), NONE);
    }
}
