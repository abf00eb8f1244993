import java.util.Random;

/** Runs of random calls, each asked of the class and of PlainRacks; the seeds are fixed, so runs stay the same. */
public final class RandomRunsTest {
    private static final int RUNS = 400;
    private static final int CALLS = 512;
    private static final int MOST_CALLS_OF_A_TEST = 64;

    private final Random random;
    private final String name;
    private final LampRacks racks = new LampRacks();
    private final PlainRacks plain = new PlainRacks();
    private final boolean quick;

    private RandomRunsTest(int seed) {
        random = new Random(seed);
        name = "run " + seed + ", call ";
        quick = seed % 2 == 0;
    }

    public static void main(String[] args) {
        for (int seed = 1; seed <= RUNS; seed++) {
            RandomRunsTest run = new RandomRunsTest(seed);
            int call = 0;
            while (call < CALLS) {
                call += run.callSome(call);
            }
        }
        Check.end();
    }

    /** A number in the range, or now and then one just out of it or far away. */
    private int near(int least, int most) {
        int kind = random.nextInt(60);
        if (kind == 0) {
            return least - 1;
        }
        if (kind == 1) {
            return most + 1;
        }
        if (kind == 2) {
            return random.nextInt();
        }
        if (kind == 3) {
            return least;
        }
        if (kind == 4) {
            return most;
        }
        return least + random.nextInt(most - least + 1);
    }

    private int rackNumber() {
        return near(0, 2);
    }

    private int placeNumber() {
        return near(0, 7);
    }

    private int lampNumber() {
        int size = plain.count(1);
        return near(0, Math.max(0, size - 1));
    }

    private int hours() {
        return quick ? near(1, 30) : near(1, 999);
    }

    private int callSome(int call) {
        int kind = random.nextInt(100);
        String where = name + call + ": ";
        if (kind < 50) {
            act(where, random.nextInt(20));
            return 1;
        }
        if (kind < 53 && call + MOST_CALLS_OF_A_TEST <= CALLS) {
            return performSome(where);
        }
        tell(where, random.nextInt(12));
        return 1;
    }

    private void act(String where, int kind) {
        int rack = rackNumber();
        int place = placeNumber();
        if (kind < 6) {
            int batch = near(0, 5);
            Check.due(where + "put", racks.put(rack, place, batch), plain.put(rack, place, batch));
        } else if (kind < 7) {
            Check.due(where + "takeOut", racks.takeOut(rack, place), plain.takeOut(rack, place));
        } else if (kind < 8) {
            int other = rackNumber();
            int otherPlace = random.nextInt(6) == 0 ? place : placeNumber();
            Check.due(where + "swap", racks.swap(rack, place, other, otherPlace),
                    plain.swap(rack, place, other, otherPlace));
        } else if (kind < 9) {
            int volts = random.nextInt(5) == 0 ? 0 : near(0, 300);
            Check.due(where + "setVolts", racks.setVolts(rack, volts), plain.setVolts(rack, volts));
        } else if (kind < 11) {
            int hours = near(0, random.nextBoolean() ? 9 : 99);
            int volts = near(-50, 50);
            Check.due(where + "setSteps", racks.setSteps(rack, hours, volts), plain.setSteps(rack, hours, volts));
        } else if (kind < 16) {
            int hours = hours();
            Check.due(where + "pass", racks.pass(hours), plain.pass(hours));
        } else {
            actRarely(where, kind);
        }
    }

    private void actRarely(String where, int kind) {
        if (kind == 16) {
            int batch = near(0, 5);
            int life = quick ? near(10, 60) : near(10, 9999);
            int spread = near(0, 90);
            Check.due(where + "setBatch", racks.setBatch(batch, life, spread), plain.setBatch(batch, life, spread));
        } else if (kind == 17) {
            int which = near(0, 1);
            int value = which == 0 ? near(100, 300) : near(1, 100);
            Check.due(where + "set", racks.set(which, value), plain.set(which, value));
        } else if (kind == 18) {
            Check.due(where + "undo", racks.undo(), plain.undo());
        } else if (random.nextInt(3) == 0) {
            Check.due(where + "keep", racks.keep(), plain.keep());
        } else if (random.nextInt(4) == 0) {
            Check.due(where + "restore", racks.restore(), plain.restore());
        } else {
            int what = near(0, 1);
            Check.due(where + "stopped", racks.stopped(what), plain.stopped(what));
        }
    }

    private int performSome(String where) {
        String text = someTest();
        Check.due(where + "clearText", racks.clearText(), plain.clearText());
        for (int index = 0; index < text.length(); index++) {
            char character = text.charAt(index);
            Check.due(where + "type " + character, racks.type(character), plain.type(character));
        }
        Check.due(where + "perform " + text, racks.perform(), plain.perform());
        Check.due(where + "stopped(0)", racks.stopped(0), plain.stopped(0));
        Check.due(where + "stopped(1)", racks.stopped(1), plain.stopped(1));
        return text.length() + 4;
    }

    private String someTest() {
        StringBuilder text = new StringBuilder(someThing());
        for (int more = random.nextInt(6); more > 0; more--) {
            text.append(random.nextInt(40) == 0 ? ":" : ";").append(someThing());
        }
        if (random.nextInt(5) == 0) {
            String signs = "ptvs.:;+-0123456789x";
            int index = random.nextInt(text.length());
            text.setCharAt(index, signs.charAt(random.nextInt(signs.length())));
        }
        if (random.nextInt(8) == 0) {
            text.setLength(random.nextInt(text.length() + 1));
        }
        return text.toString();
    }

    private String someThing() {
        int rack = random.nextInt(random.nextInt(10) == 0 ? 4 : 3);
        int place = random.nextInt(random.nextInt(10) == 0 ? 9 : 8);
        switch (random.nextInt(5)) {
            case 0:
                return "p" + rack + place + ":" + random.nextInt(random.nextInt(10) == 0 ? 9 : 6);
            case 1:
                return "t" + rack + place;
            case 2:
                return "v" + rack + ":" + random.nextInt(310);
            case 3:
                return "s" + rack + ":" + random.nextInt(101) + (random.nextBoolean() ? "+" : "-") + random.nextInt(52);
            default:
                return "." + random.nextInt(quick ? 40 : 1010);
        }
    }

    private void tell(String where, int kind) {
        int lamp = lampNumber();
        int rack = rackNumber();
        int batch = near(0, 5);
        if (kind < 2) {
            int what = near(0, 9);
            Check.due(where + "lamp(" + lamp + ", " + what, racks.lamp(lamp, what), plain.lamp(lamp, what));
        } else if (kind < 3) {
            int what = near(0, 7);
            Check.due(where + "rack(" + rack + ", " + what, racks.rack(rack, what), plain.rack(rack, what));
        } else if (kind < 4) {
            int place = placeNumber();
            Check.due(where + "at(" + rack + ", " + place, racks.at(rack, place), plain.at(rack, place));
        } else if (kind < 6) {
            int what = near(0, 6);
            Check.due(where + "batch(" + batch + ", " + what, racks.batch(batch, what), plain.batch(batch, what));
        } else if (kind < 7) {
            int hours = quick ? near(0, 60) : near(0, 99999);
            Check.due(where + "lasted(" + batch + ", " + hours, racks.lasted(batch, hours), plain.lasted(batch, hours));
        } else if (kind < 8) {
            int rank = near(0, 20);
            Check.due(where + "ended(" + rank, racks.ended(rank), plain.ended(rank));
        } else if (kind < 9) {
            int volts = near(1, 300);
            Check.due(where + "lasts(" + lamp + ", " + volts, racks.lasts(lamp, volts), plain.lasts(lamp, volts));
        } else if (kind < 10) {
            Check.due(where + "reason(" + lamp, racks.reason(lamp), plain.reason(lamp));
        } else if (kind < 11) {
            int what = near(0, 1);
            Check.due(where + "next(" + what, racks.next(what), plain.next(what));
        } else {
            int what = near(0, 11);
            Check.due(where + "count(" + what, racks.count(what), plain.count(what));
        }
    }
}
