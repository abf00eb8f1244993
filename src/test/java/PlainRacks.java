import java.util.ArrayList;
import java.util.Arrays;
import java.util.List;
import java.util.regex.Matcher;
import java.util.regex.Pattern;

/**
 * The document once more, by other means and with no care for speed: hours pass one by one, states are copied whole,
 * and the text is matched by a pattern. RandomRunsTest asks it and the class the same things.
 */
final class PlainRacks {
    private static final int UNKNOWN = -1001;
    private static final int BAD_VALUE = -1002;
    private static final int FULL = -1003;
    private static final int NOT_POSSIBLE = -1004;
    private static final int NONE = -1005;

    private static final String DIGITS_TO_300 = "(?:0|300|[12][0-9][0-9]|[1-9][0-9]?)";
    private static final String DIGITS_TO_99 = "(?:0|[1-9][0-9]?)";
    private static final String DIGITS_TO_50 = "(?:0|50|[1-4][0-9]|[1-9])";
    private static final String THING = "(?:p[0-2][0-7]:[0-5]|t[0-2][0-7]|v[0-2]:" + DIGITS_TO_300
            + "|s[0-2]:" + DIGITS_TO_99 + "[+-]" + DIGITS_TO_50 + "|\\.[1-9][0-9]?[0-9]?)";
    private static final Pattern TEST = Pattern.compile(THING + "(?:;" + THING + ")*");

    private static final class Lamp implements Cloneable {
        int number;
        int batch;
        int rack;
        int place;
        int lasts;
        int wear;
        int hours;
        int end = -1;
        boolean weak;

        Lamp copy() {
            try {
                return (Lamp) clone();
            } catch (CloneNotSupportedException impossible) {
                throw new IllegalStateException(impossible);
            }
        }

        boolean dead() {
            return wear >= 10 * lasts;
        }
    }

    private static final class State {
        int hour;
        int wanted = 230;
        int doubling = 10;
        int[] life = {1000, 1000, 1000, 1000, 1000, 1000};
        int[] spread = {0, 10, 20, 30, 40, 50};
        int[] volts = {230, 230, 230};
        int[] stepHours = new int[3];
        int[] stepVolts = new int[3];
        int[] since = new int[3];
        List<Lamp> lamps = new ArrayList<>();

        State copy() {
            State copy = new State();
            copy.hour = hour;
            copy.wanted = wanted;
            copy.doubling = doubling;
            copy.life = life.clone();
            copy.spread = spread.clone();
            copy.volts = volts.clone();
            copy.stepHours = stepHours.clone();
            copy.stepVolts = stepVolts.clone();
            copy.since = since.clone();
            for (Lamp lamp : lamps) {
                copy.lamps.add(lamp.copy());
            }
            return copy;
        }

        Lamp at(int rack, int place) {
            for (Lamp lamp : lamps) {
                if (lamp.rack == rack && lamp.place == place) {
                    return lamp;
                }
            }
            return null;
        }

        int wear(int volts, boolean hot) {
            int wear = 10 + (int) ((double) (10 * (volts - wanted)) / doubling);
            wear = wear < 1 ? 1 : wear;
            return hot ? wear + (int) Math.floor(wear / 10.0) : wear;
        }

        int passHour() {
            hour++;
            int ends = 0;
            for (Lamp lamp : lamps) {
                if (lamp.rack >= 0 && volts[lamp.rack] > 0 && !lamp.dead()) {
                    lamp.hours++;
                    lamp.wear += wear(volts[lamp.rack], lamp.place == 3 || lamp.place == 4);
                    if (lamp.dead()) {
                        lamp.end = hour;
                        ends++;
                    }
                }
            }
            for (int rack = 0; rack < 3; rack++) {
                since[rack]++;
                if (stepHours[rack] > 0 && since[rack] % stepHours[rack] == 0) {
                    volts[rack] = Math.min(300, Math.max(0, volts[rack] + stepVolts[rack]));
                }
            }
            return ends;
        }
    }

    private State now = new State();
    private State kept = null;
    private final List<State> history = new ArrayList<>();
    private String text = "";
    private int stopNumber = NONE;
    private int stopError = NONE;

    private int act(State before, int answer) {
        if (answer >= 0) {
            history.add(before);
            if (history.size() > 4) {
                history.remove(0);
            }
        }
        return answer;
    }

    private static boolean bad(int value, int least, int most) {
        return value < least || value > most;
    }

    int setBatch(int batch, int life, int spread) {
        State before = now.copy();
        if (bad(batch, 0, 5)) {
            return UNKNOWN;
        }
        if (bad(life, 10, 9999) || bad(spread, 0, 90)) {
            return BAD_VALUE;
        }
        if (now.life[batch] == life && now.spread[batch] == spread) {
            return NONE;
        }
        now.life[batch] = life;
        now.spread[batch] = spread;
        return act(before, before.life[batch]);
    }

    int put(int rack, int place, int batch) {
        State before = now.copy();
        return act(before, doPut(rack, place, batch));
    }

    private int doPut(int rack, int place, int batch) {
        if (bad(rack, 0, 2) || bad(place, 0, 7) || bad(batch, 0, 5)) {
            return UNKNOWN;
        }
        if (now.at(rack, place) != null) {
            return NOT_POSSIBLE;
        }
        if (now.lamps.size() == 60) {
            return FULL;
        }
        Lamp lamp = new Lamp();
        lamp.number = now.lamps.size();
        lamp.batch = batch;
        lamp.rack = rack;
        lamp.place = place;
        int share = 7 * lamp.number % 10;
        lamp.weak = share == 9;
        lamp.lasts = now.life[batch] - (int) Math.floor(now.life[batch] * now.spread[batch] * share / 1000.0);
        lamp.lasts = lamp.weak ? (int) Math.floor(lamp.lasts / 10.0) : lamp.lasts;
        lamp.lasts = lamp.lasts < 1 ? 1 : lamp.lasts;
        now.lamps.add(lamp);
        return lamp.number;
    }

    int takeOut(int rack, int place) {
        State before = now.copy();
        return act(before, doTakeOut(rack, place));
    }

    private int doTakeOut(int rack, int place) {
        if (bad(rack, 0, 2) || bad(place, 0, 7)) {
            return UNKNOWN;
        }
        Lamp lamp = now.at(rack, place);
        if (lamp == null) {
            return NONE;
        }
        lamp.rack = -1;
        lamp.place = -1;
        return lamp.number;
    }

    int swap(int rack, int place, int otherRack, int otherPlace) {
        if (bad(rack, 0, 2) || bad(place, 0, 7) || bad(otherRack, 0, 2) || bad(otherPlace, 0, 7)) {
            return UNKNOWN;
        }
        State before = now.copy();
        Lamp lamp = now.at(rack, place);
        Lamp other = now.at(otherRack, otherPlace);
        if (lamp == other) {
            return NONE;
        }
        int moved = 0;
        if (lamp != null) {
            lamp.rack = otherRack;
            lamp.place = otherPlace;
            moved++;
        }
        if (other != null) {
            other.rack = rack;
            other.place = place;
            moved++;
        }
        return act(before, moved);
    }

    int setVolts(int rack, int volts) {
        State before = now.copy();
        return act(before, doSetVolts(rack, volts));
    }

    private int doSetVolts(int rack, int volts) {
        if (bad(rack, 0, 2)) {
            return UNKNOWN;
        }
        if (bad(volts, 0, 300)) {
            return BAD_VALUE;
        }
        int previous = now.volts[rack];
        now.volts[rack] = volts;
        return previous == volts ? NONE : previous;
    }

    int setSteps(int rack, int hours, int volts) {
        State before = now.copy();
        return act(before, doSetSteps(rack, hours, volts));
    }

    private int doSetSteps(int rack, int hours, int volts) {
        if (bad(rack, 0, 2)) {
            return UNKNOWN;
        }
        if (bad(hours, 0, 99) || bad(volts, -50, 50)) {
            return BAD_VALUE;
        }
        int previous = now.stepHours[rack];
        now.stepHours[rack] = hours;
        now.stepVolts[rack] = volts;
        now.since[rack] = 0;
        return previous;
    }

    int set(int which, int value) {
        State before = now.copy();
        if (bad(which, 0, 1)) {
            return UNKNOWN;
        }
        if (bad(value, which == 0 ? 100 : 1, which == 0 ? 300 : 100)) {
            return BAD_VALUE;
        }
        int previous = which == 0 ? now.wanted : now.doubling;
        if (which == 0) {
            now.wanted = value;
        } else {
            now.doubling = value;
        }
        return act(before, previous == value ? NONE : previous);
    }

    int pass(int hours) {
        State before = now.copy();
        return act(before, doPass(hours));
    }

    private int doPass(int hours) {
        if (bad(hours, 1, 999)) {
            return BAD_VALUE;
        }
        if (now.hour + hours > 99999) {
            return FULL;
        }
        int ends = 0;
        for (int hour = 0; hour < hours; hour++) {
            ends += now.passHour();
        }
        return ends;
    }

    int type(char character) {
        if (text.length() == 60) {
            return FULL;
        }
        text += character;
        return text.length();
    }

    int clearText() {
        int length = text.length();
        text = "";
        return length;
    }

    private int fault() {
        for (int length = 1; length <= text.length(); length++) {
            Matcher matcher = TEST.matcher(text.substring(0, length));
            if (!matcher.matches() && !matcher.hitEnd()) {
                return length - 1;
            }
        }
        return TEST.matcher(text).matches() ? -1 : text.length();
    }

    int perform() {
        int fault = fault();
        if (fault >= 0) {
            return -1100 - fault;
        }
        State before = now.copy();
        String[] things = text.split(";");
        for (int index = 0; index < things.length; index++) {
            int answer = performThing(things[index]);
            if (answer < 0 && answer != NONE) {
                now = before;
                stopNumber = index;
                stopError = answer;
                return NOT_POSSIBLE;
            }
        }
        return act(before, things.length);
    }

    private int performThing(String thing) {
        if (thing.charAt(0) == '.') {
            return doPass(Integer.parseInt(thing.substring(1)));
        }
        int rack = thing.charAt(1) - '0';
        int place = thing.charAt(2) - '0';
        if (thing.charAt(0) == 'p') {
            return doPut(rack, place, thing.charAt(4) - '0');
        }
        if (thing.charAt(0) == 't') {
            return doTakeOut(rack, place);
        }
        if (thing.charAt(0) == 'v') {
            return doSetVolts(rack, Integer.parseInt(thing.substring(3)));
        }
        int sign = Math.max(thing.indexOf('+'), thing.indexOf('-'));
        return doSetSteps(rack, Integer.parseInt(thing.substring(3, sign)), Integer.parseInt(thing.substring(sign)));
    }

    int stopped(int what) {
        if (bad(what, 0, 1)) {
            return BAD_VALUE;
        }
        return what == 0 ? stopNumber : stopError;
    }

    int undo() {
        if (history.isEmpty()) {
            return NONE;
        }
        now = history.remove(history.size() - 1);
        return history.size();
    }

    int keep() {
        kept = now.copy();
        return now.lamps.size();
    }

    int restore() {
        if (kept == null) {
            return NONE;
        }
        State before = now;
        now = kept.copy();
        return act(before, now.lamps.size());
    }

    int lamp(int number, int what) {
        if (bad(number, 0, now.lamps.size() - 1)) {
            return UNKNOWN;
        }
        if (bad(what, 0, 9)) {
            return BAD_VALUE;
        }
        Lamp lamp = now.lamps.get(number);
        boolean out = lamp.rack < 0;
        int[] told = {lamp.batch, out ? NONE : lamp.rack, out ? NONE : lamp.place, lamp.lasts, lamp.wear, lamp.hours,
            lamp.wear / 10, lamp.dead() ? 1 : 0, lamp.dead() ? lamp.end : NONE, lamp.weak ? 1 : 0};
        return told[what];
    }

    int rack(int rack, int what) {
        if (bad(rack, 0, 2)) {
            return UNKNOWN;
        }
        if (bad(what, 0, 7)) {
            return BAD_VALUE;
        }
        int all = 0;
        int alive = 0;
        for (int place = 0; place < 8; place++) {
            Lamp lamp = now.at(rack, place);
            all += lamp == null ? 0 : 1;
            alive += lamp == null || lamp.dead() ? 0 : 1;
        }
        int volts = now.volts[rack];
        int period = now.stepHours[rack];
        int[] told = {volts, all, alive, volts == 0 ? 0 : now.wear(volts, false), volts == 0 ? 0 : now.wear(volts, true),
            period, now.stepVolts[rack], period == 0 ? NONE : period - now.since[rack] % period};
        return told[what];
    }

    int at(int rack, int place) {
        if (bad(rack, 0, 2) || bad(place, 0, 7)) {
            return UNKNOWN;
        }
        return now.at(rack, place) == null ? NONE : now.at(rack, place).number;
    }

    int batch(int batch, int what) {
        if (bad(batch, 0, 5)) {
            return UNKNOWN;
        }
        if (bad(what, 0, 6)) {
            return BAD_VALUE;
        }
        int all = 0;
        List<Integer> dead = new ArrayList<>();
        int early = 0;
        for (Lamp lamp : now.lamps) {
            all += lamp.batch == batch ? 1 : 0;
            if (lamp.batch == batch && lamp.dead()) {
                dead.add(lamp.wear / 10);
                early += lamp.wear / 10 < now.life[batch] / 2 ? 1 : 0;
            }
        }
        dead.sort(null);
        int place = all / 2 + all % 2;
        int middle = all == 0 || dead.size() < place ? NONE : dead.get(place - 1);
        int[] told = {now.life[batch], now.spread[batch], all, dead.size(), early, middle,
            early > dead.size() / 2.0 ? 1 : 0};
        return told[what];
    }

    int lasted(int batch, int hours) {
        if (bad(batch, 0, 5)) {
            return UNKNOWN;
        }
        if (bad(hours, 0, 99999)) {
            return BAD_VALUE;
        }
        int found = 0;
        for (Lamp lamp : now.lamps) {
            found += lamp.batch == batch && lamp.wear / 10 >= hours ? 1 : 0;
        }
        return found;
    }

    int ended(int rank) {
        if (rank < 0) {
            return BAD_VALUE;
        }
        List<long[]> ends = new ArrayList<>();
        for (Lamp lamp : now.lamps) {
            if (lamp.dead()) {
                ends.add(new long[] {lamp.end, lamp.number});
            }
        }
        ends.sort((one, other) -> Arrays.compare(one, other));
        return rank < ends.size() ? (int) ends.get(rank)[1] : NONE;
    }

    int lasts(int number, int volts) {
        if (bad(number, 0, now.lamps.size() - 1)) {
            return UNKNOWN;
        }
        if (bad(volts, 1, 300)) {
            return BAD_VALUE;
        }
        Lamp lamp = now.lamps.get(number);
        if (lamp.dead()) {
            return NOT_POSSIBLE;
        }
        int hours = 0;
        for (int wear = lamp.wear; wear < 10 * lamp.lasts; hours++) {
            wear += now.wear(volts, lamp.place == 3 || lamp.place == 4);
        }
        return hours;
    }

    int reason(int number) {
        if (bad(number, 0, now.lamps.size() - 1)) {
            return UNKNOWN;
        }
        Lamp lamp = now.lamps.get(number);
        if (lamp.dead()) {
            return 1;
        }
        if (lamp.rack < 0) {
            return 2;
        }
        return now.volts[lamp.rack] == 0 ? 3 : 0;
    }

    int next(int what) {
        if (bad(what, 0, 1)) {
            return BAD_VALUE;
        }
        State ahead = now.copy();
        for (int hours = 1; hours <= 3000; hours++) {
            if (ahead.passHour() > 0) {
                for (Lamp lamp : ahead.lamps) {
                    if (lamp.end == ahead.hour) {
                        return what == 0 ? lamp.number : hours;
                    }
                }
            }
        }
        return NONE;
    }

    int count(int what) {
        if (bad(what, 0, 11)) {
            return BAD_VALUE;
        }
        int[] told = new int[12];
        told[0] = now.hour;
        told[1] = now.lamps.size();
        for (Lamp lamp : now.lamps) {
            told[2] += lamp.rack >= 0 ? 1 : 0;
            told[3] += reason(lamp.number) == 0 ? 1 : 0;
            told[4] += lamp.dead() ? 1 : 0;
            told[5] += lamp.weak ? 1 : 0;
            told[6] += lamp.hours;
            told[7] += lamp.wear;
        }
        told[8] = now.wanted;
        told[9] = now.doubling;
        told[10] = history.size();
        told[11] = text.length();
        return told[what];
    }
}
