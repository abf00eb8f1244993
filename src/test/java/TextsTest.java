/** Promises 10 to 13: the text, its faults, tests that are performed, and stops. */
public final class TextsTest {
    private TextsTest() {
    }

    public static void main(String[] args) {
        promise10Type();
        promise11ClearText();
        promise12Faults();
        promise12EachSignAtEachPlace();
        promise12LongestText();
        promise12Perform();
        promise12OneAct();
        promise12AllOrNothing();
        promise12NoneDoesNotStop();
        promise13Stopped();
        Check.end();
    }

    private static void promise10Type() {
        LampRacks racks = new LampRacks();
        for (int length = 1; length <= 60; length++) {
            Check.due("type", racks.type('.'), length);
        }
        Check.due("full", racks.type('.'), LampRacks.FULL);
        Check.due("length", racks.count(11), 60);
        Check.due("no act", racks.count(10), 0);
        racks.clearText();
        Check.due("any character", racks.type((char) 0), 1);
        Check.due("any character", racks.type((char) 65535), 2);
        Check.due("any character", racks.type((char) 233), 3);
        Check.due("fault", racks.perform(), -1100);
    }

    private static void promise11ClearText() {
        LampRacks racks = new LampRacks();
        Check.due("clearText", racks.clearText(), 0);
        racks.type('t');
        racks.type('0');
        Check.due("clearText", racks.clearText(), 2);
        Check.due("length", racks.count(11), 0);
        Check.due("clearText", racks.clearText(), 0);
        Check.due("no act", racks.count(10), 0);
    }

    private static void promise12Faults() {
        faultDue("", 0);
        faultDue(";", 0);
        faultDue("P00:1", 0);
        faultDue(" t00", 0);
        faultDue("p", 1);
        faultDue("p3", 1);
        faultDue("p2", 2);
        faultDue("p28", 2);
        faultDue("p27", 3);
        faultDue("p27;", 3);
        faultDue("p27:", 4);
        faultDue("p27:6", 4);
        faultDue("p27:55", 5);
        faultDue("t", 1);
        faultDue("t0", 2);
        faultDue("t00:", 3);
        faultDue("t00;", 4);
        faultDue("t00;;", 4);
        faultDue("v", 1);
        faultDue("v0", 2);
        faultDue("v01", 2);
        faultDue("v0:", 3);
        faultDue("v0:-1", 3);
        faultDue("v0:00", 4);
        faultDue("v0:301", 5);
        faultDue("v0:310", 4 + 1);
        faultDue("v0:3000", 6);
        faultDue("v0:400", 5);
        faultDue("v0:300.", 6);
        faultDue("s0", 2);
        faultDue("s0:", 3);
        faultDue("s0:+5", 3);
        faultDue("s0:01+5", 4);
        faultDue("s0:100+5", 5);
        faultDue("s0:99", 5);
        faultDue("s0:99;", 5);
        faultDue("s0:99+", 6);
        faultDue("s0:99++5", 6);
        faultDue("s0:99+51", 7);
        faultDue("s0:99+60", 7);
        faultDue("s0:99-05", 7);
        faultDue("s0:99-500", 8);
        faultDue(".", 1);
        faultDue(".0", 1);
        faultDue(".01", 1);
        faultDue(".;", 1);
        faultDue(".1000", 4);
        faultDue(".9990", 4);
        faultDue(".1 ", 2);
        faultDue(".1.1", 2);
        faultDue(".1;.1;x", 6);
        faultDue(".1;.1;" + (char) ('1' + 256), 6);
        faultDue("t0" + (char) 0x0660, 2);
    }

    private static void faultDue(String text, int fault) {
        LampRacks racks = new LampRacks();
        Check.due("fault of " + text, Check.performText(racks, text), -1100 - fault);
        Check.due("no stop by " + text, racks.stopped(0), LampRacks.NONE);
        Check.due("no act by " + text, racks.count(10), 0);
        Check.due("text stays, " + text, racks.count(11), text.length());
        Check.due("no hour by " + text, racks.count(0), 0);
    }

    /** Where a digit, a sign or the end may stand behind each start. */
    private static void promise12EachSignAtEachPlace() {
        allowedDue("", "ptvs.");
        allowedDue("p", "012");
        allowedDue("p1", "01234567");
        allowedDue("p17", ":");
        allowedDue("p17:", "012345");
        allowedDue("p17:0", ";");
        allowedDue("t", "012");
        allowedDue("t2", "01234567");
        allowedDue("t20", ";");
        allowedDue("v", "012");
        allowedDue("v0", ":");
        allowedDue("v0:", "0123456789");
        allowedDue("v0:0", ";");
        allowedDue("v0:3", "0123456789;");
        allowedDue("v0:29", "0123456789;");
        allowedDue("v0:30", "0;");
        allowedDue("v0:31", ";");
        allowedDue("s1", ":");
        allowedDue("s1:", "0123456789");
        allowedDue("s1:0", "+-");
        allowedDue("s1:9", "0123456789+-");
        allowedDue("s1:99", "+-");
        allowedDue("s1:99+", "0123456789");
        allowedDue("s1:99-5", "0;");
        allowedDue("s1:99-4", "0123456789;");
        allowedDue("s1:99-6", ";");
        allowedDue("s1:99-0", ";");
        allowedDue(".", "123456789");
        allowedDue(".9", "0123456789;");
        allowedDue(".99", "0123456789;");
        allowedDue(".999", ";");
        allowedDue("t00;", "ptvs.");
    }

    private static void allowedDue(String start, String allowed) {
        for (char sign = 32; sign < 127; sign++) {
            int answer = Check.performText(new LampRacks(), start + sign);
            boolean taken = answer != -1100 - start.length();
            Check.due("sign " + sign + " behind " + start, taken ? 1 : 0, allowed.indexOf(sign) >= 0 ? 1 : 0);
        }
    }

    private static void promise12LongestText() {
        LampRacks racks = new LampRacks();
        StringBuilder text = new StringBuilder("t00");
        for (int more = 0; more < 19; more++) {
            text.append(";.1");
        }
        Check.due("length", text.length(), 60);
        Check.due("20 things", Check.performText(racks, text.toString()), 20);
        Check.due("hours", racks.count(0), 19);
        Check.due("fault at the end", Check.performText(racks, text.substring(3) + ";.1"), -1100);
        Check.due("ends too early", Check.performText(racks, text.substring(4) + ";.1;"), -1160);
    }

    private static void promise12Perform() {
        LampRacks racks = new LampRacks();
        Check.due("put", Check.performText(racks, "p27:5"), 1);
        Check.due("at", racks.at(2, 7), 0);
        Check.due("batch", racks.lamp(0, 0), 5);
        Check.due("steps", Check.performText(racks, "s1:12+50;s2:0-0"), 2);
        Check.due("step hours", racks.rack(1, 5), 12);
        Check.due("step volts", racks.rack(1, 6), 50);
        Check.due("steps down", Check.performText(racks, "s1:3-7"), 1);
        Check.due("step volts", racks.rack(1, 6), -7);
        Check.due("volts", Check.performText(racks, "v2:300;v0:0"), 2);
        Check.due("volts", racks.rack(2, 0), 300);
        Check.due("volts", racks.rack(0, 0), 0);
        Check.due("hours", Check.performText(racks, ".10;t27;.9"), 3);
        Check.due("hour", racks.count(0), 19);
        Check.due("burned", racks.lamp(0, 5), 10);
        Check.due("volts stepped", racks.rack(1, 0), 230 - 6 * 7);
        Check.due("text stays", racks.count(11), 10);
        Check.due("again", racks.perform(), 3);
        Check.due("hour", racks.count(0), 38);
    }

    private static void promise12OneAct() {
        LampRacks racks = new LampRacks();
        Check.due("perform", Check.performText(racks, "p00:0;p01:1;.5;v0:10"), 4);
        Check.due("one state", racks.count(10), 1);
        Check.due("undo", racks.undo(), 0);
        Check.due("lamps", racks.count(1), 0);
        Check.due("hour", racks.count(0), 0);
        Check.due("volts", racks.rack(0, 0), 230);
        Check.due("text is no part of the state", racks.count(11), 20);
    }

    private static void promise12AllOrNothing() {
        LampRacks racks = new LampRacks();
        racks.put(0, 0, 0);
        Check.due("stopped", Check.performText(racks, "t00;p00:1;v1:5;s1:2+2;.7;p00:2;.1"), LampRacks.NOT_POSSIBLE);
        Check.due("which", racks.stopped(0), 5);
        Check.due("why", racks.stopped(1), LampRacks.NOT_POSSIBLE);
        Check.due("lamp", racks.at(0, 0), 0);
        Check.due("lamps", racks.count(1), 1);
        Check.due("hour", racks.count(0), 0);
        Check.due("volts", racks.rack(1, 0), 230);
        Check.due("steps", racks.rack(1, 5), 0);
        Check.due("wear", racks.lamp(0, 4), 0);
        Check.due("states", racks.count(10), 1);
        Check.due("a fault does nothing of what is before it", Check.performText(racks, ".5;t00;x"), -1107);
        Check.due("hour", racks.count(0), 0);
        for (int lamp = 1; lamp < 60; lamp++) {
            racks.put(0, 1, 0);
            racks.takeOut(0, 1);
        }
        Check.due("full", Check.performText(racks, ".1;p01:0"), LampRacks.NOT_POSSIBLE);
        Check.due("which", racks.stopped(0), 1);
        Check.due("why", racks.stopped(1), LampRacks.FULL);
        Check.due("hour", racks.count(0), 0);
    }

    private static void promise12NoneDoesNotStop() {
        LampRacks racks = new LampRacks();
        Check.due("none", Check.performText(racks, "t00;v0:230;t00"), 3);
        Check.due("an act even so", racks.count(10), 1);
        Check.due("no stop", racks.stopped(0), LampRacks.NONE);
    }

    private static void promise13Stopped() {
        LampRacks racks = new LampRacks();
        Check.due("below", racks.stopped(-1), LampRacks.BAD_VALUE);
        Check.due("above", racks.stopped(2), LampRacks.BAD_VALUE);
        Check.due("nothing yet", racks.stopped(0), LampRacks.NONE);
        Check.due("nothing yet", racks.stopped(1), LampRacks.NONE);
        racks.put(0, 0, 0);
        racks.keep();
        Check.performText(racks, "p00:0");
        Check.due("number", racks.stopped(0), 0);
        Check.due("error", racks.stopped(1), LampRacks.NOT_POSSIBLE);
        Check.due("bad even so", racks.stopped(2), LampRacks.BAD_VALUE);
        Check.performText(racks, ".1;.1;p00:0");
        Check.due("the latest", racks.stopped(0), 2);
        Check.performText(racks, ".1");
        Check.due("stays when all is done", racks.stopped(0), 2);
        Check.performText(racks, ".1x");
        Check.due("stays at a fault", racks.stopped(0), 2);
        racks.clearText();
        racks.undo();
        racks.restore();
        Check.due("stays at undo and restore", racks.stopped(0), 2);
        Check.due("stays at undo and restore", racks.stopped(1), LampRacks.NOT_POSSIBLE);
    }
}
