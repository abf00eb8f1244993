import java.util.Arrays;

/** Racks in which lamps of batches burn, wear and end; README.md tells how it is used. */
public final class LampRacks {
    public static final int UNKNOWN = -1001;
    public static final int BAD_VALUE = -1002;
    public static final int FULL = -1003;
    public static final int NOT_POSSIBLE = -1004;
    public static final int NONE = -1005;

    private static final int BATCHES = 6;
    private static final int LEAST_LIFE = 10;
    private static final int MOST_LIFE = 9999;
    private static final int FIRST_LIFE = 1000;
    private static final int MOST_SPREAD = 90;
    private static final int FIRST_SPREAD_STEP = 10;

    private static final int MOST_LAMPS = 60;
    private static final int NO_LAMP = -1;
    private static final int NO_SPOT = -1;
    private static final int NOT_ENDED = -1;
    private static final int WEAK_SHARE = 9;

    private static final int RACKS = 3;
    private static final int PLACES = 8;
    private static final int FIRST_HOT_PLACE = 3;
    private static final int LAST_HOT_PLACE = 4;
    private static final int MOST_VOLTS = 300;
    private static final int FIRST_VOLTS = 230;
    private static final int MOST_STEP_HOURS = 99;
    private static final int MOST_STEP_VOLTS = 50;

    private static final int LEAST_WANTED_VOLTS = 100;
    private static final int MOST_DOUBLING_VOLTS = 100;
    private static final int FIRST_DOUBLING_VOLTS = 10;

    private static final int MOST_HOURS_AT_ONCE = 999;
    private static final int LAST_HOUR = 99999;
    private static final int HOURS_LOOKED_AHEAD = 3000;

    private static final int MOST_CHARACTERS = 60;
    private static final int NO_CHARACTER = -1;
    private static final int NO_FAULT = -1;
    private static final int FAULT_AT_START = -1100;

    private static final int MOST_STATES = 4;
    private static final int NOT_STOPPED = 0;

    private final State now = new State();
    private final State before = new State();
    private final State ahead = new State();
    private final State snapshot = new State();
    private boolean hasSnapshot = false;
    private final History history = new History();
    private final Text text = new Text();
    private int stoppedThing = 0;
    private int stoppedError = NOT_STOPPED;

    public LampRacks() {
    }

    // ---- batches, lamps

    public int setBatch(int batch, int life, int spread) {
        before.copyFrom(now);
        return recorded(now.changeBatch(batch, life, spread));
    }

    public int put(int rack, int place, int batch) {
        before.copyFrom(now);
        return recorded(now.insertLamp(rack, place, batch));
    }

    public int takeOut(int rack, int place) {
        before.copyFrom(now);
        return recorded(now.removeLamp(rack, place));
    }

    public int swap(int rack, int place, int otherRack, int otherPlace) {
        before.copyFrom(now);
        return recorded(now.exchange(rack, place, otherRack, otherPlace));
    }

    // ---- volts, hours

    public int setVolts(int rack, int volts) {
        before.copyFrom(now);
        return recorded(now.changeVolts(rack, volts));
    }

    public int setSteps(int rack, int hours, int volts) {
        before.copyFrom(now);
        return recorded(now.changeSteps(rack, hours, volts));
    }

    public int set(int which, int value) {
        before.copyFrom(now);
        return recorded(now.changeSetting(which, value));
    }

    public int pass(int hours) {
        before.copyFrom(now);
        return recorded(now.letPass(hours));
    }

    // ---- texts

    public int type(char character) {
        return text.append(character);
    }

    public int clearText() {
        return text.empty();
    }

    public int perform() {
        int fault = text.findFault();
        if (fault != NO_FAULT) {
            return FAULT_AT_START - fault;
        }
        before.copyFrom(now);
        int things = text.things;
        text.startReading();
        for (int thing = 0; thing < things; thing++) {
            text.readThing();
            int answer = doThing();
            if (isError(answer)) {
                now.copyFrom(before);
                stoppedThing = thing;
                stoppedError = answer;
                return NOT_POSSIBLE;
            }
            text.readSign(';');
        }
        return recorded(things);
    }

    public int stopped(int what) {
        if (!isWithin(what, 0, 1)) {
            return BAD_VALUE;
        }
        if (stoppedError == NOT_STOPPED) {
            return NONE;
        }
        return what == 0 ? stoppedThing : stoppedError;
    }

    // ---- history

    public int undo() {
        if (history.size == 0) {
            return NONE;
        }
        history.moveLatestTo(now);
        return history.size;
    }

    public int keep() {
        snapshot.copyFrom(now);
        hasSnapshot = true;
        return now.lamps.size;
    }

    public int restore() {
        if (!hasSnapshot) {
            return NONE;
        }
        before.copyFrom(now);
        now.copyFrom(snapshot);
        return recorded(now.lamps.size);
    }

    // ---- what is told

    public int lamp(int lamp, int what) {
        return now.tellOfLamp(lamp, what);
    }

    public int rack(int rack, int what) {
        return now.tellOfRack(rack, what);
    }

    public int at(int rack, int place) {
        if (!isPlace(rack, place)) {
            return UNKNOWN;
        }
        int lamp = now.racks.lampAt[spotOf(rack, place)];
        return lamp == NO_LAMP ? NONE : lamp;
    }

    public int batch(int batch, int what) {
        return now.tellOfBatch(batch, what);
    }

    public int lasted(int batch, int hours) {
        if (!isBatch(batch)) {
            return UNKNOWN;
        }
        if (!isWithin(hours, 0, LAST_HOUR)) {
            return BAD_VALUE;
        }
        return now.lamps.countThatLasted(batch, hours);
    }

    public int ended(int rank) {
        if (rank < 0) {
            return BAD_VALUE;
        }
        int lamp = now.lamps.findEnded(rank);
        return lamp == NO_LAMP ? NONE : lamp;
    }

    public int lasts(int lamp, int volts) {
        if (!now.lamps.has(lamp)) {
            return UNKNOWN;
        }
        if (!isWithin(volts, 1, MOST_VOLTS)) {
            return BAD_VALUE;
        }
        if (now.lamps.isDead(lamp)) {
            return NOT_POSSIBLE;
        }
        int wear = now.wearOfHour(volts, isHot(now.lamps.spot[lamp]));
        return now.lamps.hoursLeft(lamp, wear);
    }

    public int reason(int lamp) {
        if (!now.lamps.has(lamp)) {
            return UNKNOWN;
        }
        return now.whyDark(lamp);
    }

    public int next(int what) {
        if (!isWithin(what, 0, 1)) {
            return BAD_VALUE;
        }
        ahead.copyFrom(now);
        ahead.passHours(HOURS_LOOKED_AHEAD);
        int lamp = ahead.lamps.findFirstEndedAfter(now.hour);
        if (lamp == NO_LAMP) {
            return NONE;
        }
        return what == 0 ? lamp : ahead.lamps.end[lamp] - now.hour;
    }

    public int count(int what) {
        switch (what) {
            case 10:
                return history.size;
            case 11:
                return text.length;
            default:
                return now.tellOfAll(what);
        }
    }

    // ---- helps of the face

    /** Keeps the state before an act, whose answer is 0 or more unless it is an error or NONE. */
    private int recorded(int answer) {
        if (answer >= 0) {
            history.append(before);
        }
        return answer;
    }

    /** Does the thing of the test that the text has read last. */
    private int doThing() {
        switch (text.kind) {
            case 'p':
                return now.insertLamp(text.rack, text.place, text.number);
            case 't':
                return now.removeLamp(text.rack, text.place);
            case 'v':
                return now.changeVolts(text.rack, text.number);
            case 's':
                return now.changeSteps(text.rack, text.hours, text.direction * text.number);
            default:
                return now.letPass(text.number);
        }
    }

    private static boolean isError(int answer) {
        return answer < 0 && answer != NONE;
    }

    private static boolean isWithin(int value, int least, int most) {
        return value >= least && value <= most;
    }

    private static boolean isBatch(int batch) {
        return isWithin(batch, 0, BATCHES - 1);
    }

    private static boolean isRack(int rack) {
        return isWithin(rack, 0, RACKS - 1);
    }

    private static boolean isPlace(int rack, int place) {
        return isRack(rack) && isWithin(place, 0, PLACES - 1);
    }

    /** The places of all racks are numbered through, so that one number tells where a lamp is. */
    private static int spotOf(int rack, int place) {
        return rack * PLACES + place;
    }

    private static boolean isHot(int spot) {
        return spot != NO_SPOT && isWithin(spot % PLACES, FIRST_HOT_PLACE, LAST_HOT_PLACE);
    }

    private static int shareOf(int lamp) {
        return 7 * lamp % 10;
    }

    private static boolean isWeak(int lamp) {
        return shareOf(lamp) == WEAK_SHARE;
    }

    private static int oneIf(boolean holds) {
        return holds ? 1 : 0;
    }

    private static void copy(int[] from, int[] to) {
        System.arraycopy(from, 0, to, 0, Math.min(from.length, to.length));
    }

    /** What lamps that are put in from now on can last. */
    private static final class Batches {
        final int[] life = new int[BATCHES];
        final int[] spread = new int[BATCHES];

        Batches() {
            for (int batch = 0; batch < BATCHES; batch++) {
                life[batch] = FIRST_LIFE;
                spread[batch] = FIRST_SPREAD_STEP * batch;
            }
        }

        void copyFrom(Batches other) {
            copy(other.life, life);
            copy(other.spread, spread);
        }

        int hoursOfLamp(int batch, int lamp) {
            int lost = life[batch] * spread[batch] * shareOf(lamp) / 1000;
            int hours = life[batch] - lost;
            return Math.max(1, isWeak(lamp) ? hours / 10 : hours);
        }
    }

    /** All lamps that were put in ever, wherever they are now. */
    private static final class Lamps {
        int size = 0;
        final int[] batch = new int[MOST_LAMPS];
        final int[] spot = new int[MOST_LAMPS];
        final int[] canLast = new int[MOST_LAMPS];
        final int[] wear = new int[MOST_LAMPS];
        final int[] burned = new int[MOST_LAMPS];
        final int[] end = new int[MOST_LAMPS];

        void copyFrom(Lamps other) {
            size = other.size;
            copy(other.batch, batch);
            copy(other.spot, spot);
            copy(other.canLast, canLast);
            copy(other.wear, wear);
            copy(other.burned, burned);
            copy(other.end, end);
        }

        boolean has(int lamp) {
            return isWithin(lamp, 0, size - 1);
        }

        boolean isFull() {
            return size >= MOST_LAMPS;
        }

        /** To be called only if there is room. */
        int append(int itsBatch, int itsSpot, int hours) {
            int lamp = size;
            batch[lamp] = itsBatch;
            spot[lamp] = itsSpot;
            canLast[lamp] = hours;
            wear[lamp] = 0;
            burned[lamp] = 0;
            end[lamp] = NOT_ENDED;
            size++;
            return lamp;
        }

        boolean isDead(int lamp) {
            return end[lamp] != NOT_ENDED;
        }

        boolean isDeadOf(int lamp, int itsBatch) {
            return batch[lamp] == itsBatch && isDead(lamp);
        }

        int hoursCounted(int lamp) {
            return wear[lamp] / 10;
        }

        /** The hours, rounded up, after which the lamp is dead. */
        int hoursLeft(int lamp, int wearOfHour) {
            int divisor = Math.max(1, wearOfHour);
            int wearLeft = 10 * canLast[lamp] - wear[lamp];
            return (wearLeft + divisor - 1) / divisor;
        }

        void burn(int lamp, int wearOfHour, int hours) {
            burned[lamp] += hours;
            wear[lamp] += hours * wearOfHour;
        }

        int countOf(int itsBatch) {
            int found = 0;
            for (int lamp = 0; lamp < size; lamp++) {
                found += oneIf(batch[lamp] == itsBatch);
            }
            return found;
        }

        int countDeadOf(int itsBatch) {
            int found = 0;
            for (int lamp = 0; lamp < size; lamp++) {
                found += oneIf(isDeadOf(lamp, itsBatch));
            }
            return found;
        }

        int countDeadBelow(int itsBatch, int hours) {
            int found = 0;
            for (int lamp = 0; lamp < size; lamp++) {
                found += oneIf(isDeadOf(lamp, itsBatch) && hoursCounted(lamp) < hours);
            }
            return found;
        }

        int countThatLasted(int itsBatch, int hours) {
            int found = 0;
            for (int lamp = 0; lamp < size; lamp++) {
                found += oneIf(batch[lamp] == itsBatch && hoursCounted(lamp) >= hours);
            }
            return found;
        }

        int countDead() {
            int found = 0;
            for (int lamp = 0; lamp < size; lamp++) {
                found += oneIf(isDead(lamp));
            }
            return found;
        }

        int countInRacks() {
            int found = 0;
            for (int lamp = 0; lamp < size; lamp++) {
                found += oneIf(spot[lamp] != NO_SPOT);
            }
            return found;
        }

        int countWeak() {
            int found = 0;
            for (int lamp = 0; lamp < size; lamp++) {
                found += oneIf(isWeak(lamp));
            }
            return found;
        }

        int sumOf(int[] numbers) {
            int sum = 0;
            for (int lamp = 0; lamp < Math.min(size, numbers.length); lamp++) {
                sum += numbers[lamp];
            }
            return sum;
        }

        /** The dead lamp before which so many ended. */
        int findEnded(int rank) {
            for (int lamp = 0; lamp < size; lamp++) {
                if (isDead(lamp) && countEndedBefore(lamp) == rank) {
                    return lamp;
                }
            }
            return NO_LAMP;
        }

        private int countEndedBefore(int lamp) {
            int found = 0;
            for (int other = 0; other < size; other++) {
                boolean earlier = end[other] < end[lamp] || end[other] == end[lamp] && other < lamp;
                found += oneIf(isDead(other) && earlier);
            }
            return found;
        }

        int findFirstEndedAfter(int hour) {
            int first = NO_LAMP;
            for (int lamp = 0; lamp < size; lamp++) {
                if (end[lamp] > hour && (first == NO_LAMP || end[lamp] < end[first])) {
                    first = lamp;
                }
            }
            return first;
        }

        /** As long as too few lamps are dead, or there are none, no dead one has the rank. */
        int middleLife(int itsBatch) {
            int rank = (countOf(itsBatch) + 1) / 2 - 1;
            for (int lamp = 0; lamp < size; lamp++) {
                if (isDeadOf(lamp, itsBatch) && countShorterOf(itsBatch, lamp) == rank) {
                    return hoursCounted(lamp);
                }
            }
            return NONE;
        }

        /** The dead lamps told before one; ties go by number, so that each rank is taken. */
        private int countShorterOf(int itsBatch, int lamp) {
            int hours = hoursCounted(lamp);
            int found = 0;
            for (int other = 0; other < size; other++) {
                int others = hoursCounted(other);
                boolean shorter = others < hours || others == hours && other < lamp;
                found += oneIf(isDeadOf(other, itsBatch) && shorter);
            }
            return found;
        }
    }

    /** The volts of the racks with their steps, and which lamp is where. */
    private static final class Racks {
        final int[] lampAt = new int[RACKS * PLACES];
        final int[] volts = new int[RACKS];
        final int[] stepHours = new int[RACKS];
        final int[] stepVolts = new int[RACKS];
        final int[] hoursOfStep = new int[RACKS];

        Racks() {
            Arrays.fill(lampAt, NO_LAMP);
            Arrays.fill(volts, FIRST_VOLTS);
        }

        void copyFrom(Racks other) {
            copy(other.lampAt, lampAt);
            copy(other.volts, volts);
            copy(other.stepHours, stepHours);
            copy(other.stepVolts, stepVolts);
            copy(other.hoursOfStep, hoursOfStep);
        }

        boolean isDark(int rack) {
            return volts[rack] == 0;
        }

        int voltsAfterStep(int rack) {
            return Math.max(0, Math.min(MOST_VOLTS, volts[rack] + stepVolts[rack]));
        }

        int hoursToStep(int rack) {
            return stepHours[rack] == 0 ? NONE : stepHours[rack] - hoursOfStep[rack];
        }

        /** Those of some hours that pass before the volts change; at a limit no step does that. */
        int hoursAtSameVolts(int rack, int hours) {
            if (stepHours[rack] == 0 || voltsAfterStep(rack) == volts[rack]) {
                return hours;
            }
            return Math.min(hours, hoursToStep(rack));
        }

        /** Counts hours that go no further than to the next change of the volts. */
        void countHours(int rack, int hours) {
            int period = stepHours[rack];
            if (period == 0) {
                return;
            }
            int passed = hoursOfStep[rack] + hours;
            if (passed >= period) {
                volts[rack] = voltsAfterStep(rack);
            }
            hoursOfStep[rack] = passed % period;
        }
    }

    /** All that an undo or the snapshot brings back. */
    private static final class State {
        int hour = 0;
        int wantedVolts = FIRST_VOLTS;
        int doublingVolts = FIRST_DOUBLING_VOLTS;
        final Batches batches = new Batches();
        final Lamps lamps = new Lamps();
        final Racks racks = new Racks();

        void copyFrom(State other) {
            hour = other.hour;
            wantedVolts = other.wantedVolts;
            doublingVolts = other.doublingVolts;
            batches.copyFrom(other.batches);
            lamps.copyFrom(other.lamps);
            racks.copyFrom(other.racks);
        }

        int changeBatch(int batch, int life, int spread) {
            if (!isBatch(batch)) {
                return UNKNOWN;
            }
            if (!isWithin(life, LEAST_LIFE, MOST_LIFE) || !isWithin(spread, 0, MOST_SPREAD)) {
                return BAD_VALUE;
            }
            int previous = batches.life[batch];
            if (previous == life && batches.spread[batch] == spread) {
                return NONE;
            }
            batches.life[batch] = life;
            batches.spread[batch] = spread;
            return previous;
        }

        int insertLamp(int rack, int place, int batch) {
            if (!isPlace(rack, place) || !isBatch(batch)) {
                return UNKNOWN;
            }
            int spot = spotOf(rack, place);
            if (racks.lampAt[spot] != NO_LAMP) {
                return NOT_POSSIBLE;
            }
            if (lamps.isFull()) {
                return FULL;
            }
            int lamp = lamps.append(batch, spot, batches.hoursOfLamp(batch, lamps.size));
            racks.lampAt[spot] = lamp;
            return lamp;
        }

        int removeLamp(int rack, int place) {
            if (!isPlace(rack, place)) {
                return UNKNOWN;
            }
            int spot = spotOf(rack, place);
            int lamp = racks.lampAt[spot];
            if (lamp == NO_LAMP) {
                return NONE;
            }
            racks.lampAt[spot] = NO_LAMP;
            lamps.spot[lamp] = NO_SPOT;
            return lamp;
        }

        int exchange(int rack, int place, int otherRack, int otherPlace) {
            if (!isPlace(rack, place) || !isPlace(otherRack, otherPlace)) {
                return UNKNOWN;
            }
            int spot = spotOf(rack, place);
            int otherSpot = spotOf(otherRack, otherPlace);
            int lamp = racks.lampAt[spot];
            int otherLamp = racks.lampAt[otherSpot];
            if (spot == otherSpot || lamp == NO_LAMP && otherLamp == NO_LAMP) {
                return NONE;
            }
            return moveTo(otherSpot, lamp) + moveTo(spot, otherLamp);
        }

        /** Leaves a lamp, or nothing, at a place; tells how many lamps that moves. */
        private int moveTo(int spot, int lamp) {
            racks.lampAt[spot] = lamp;
            if (lamp == NO_LAMP) {
                return 0;
            }
            lamps.spot[lamp] = spot;
            return 1;
        }

        int changeVolts(int rack, int volts) {
            if (!isRack(rack)) {
                return UNKNOWN;
            }
            if (!isWithin(volts, 0, MOST_VOLTS)) {
                return BAD_VALUE;
            }
            int previous = racks.volts[rack];
            if (previous == volts) {
                return NONE;
            }
            racks.volts[rack] = volts;
            return previous;
        }

        int changeSteps(int rack, int hours, int volts) {
            if (!isRack(rack)) {
                return UNKNOWN;
            }
            if (!isWithin(hours, 0, MOST_STEP_HOURS)
                    || !isWithin(volts, -MOST_STEP_VOLTS, MOST_STEP_VOLTS)) {
                return BAD_VALUE;
            }
            int previous = racks.stepHours[rack];
            racks.stepHours[rack] = hours;
            racks.stepVolts[rack] = volts;
            racks.hoursOfStep[rack] = 0;
            return previous;
        }

        int changeSetting(int which, int value) {
            switch (which) {
                case 0:
                    return changeWantedVolts(value);
                case 1:
                    return changeDoublingVolts(value);
                default:
                    return UNKNOWN;
            }
        }

        private int changeWantedVolts(int value) {
            if (!isWithin(value, LEAST_WANTED_VOLTS, MOST_VOLTS)) {
                return BAD_VALUE;
            }
            int previous = wantedVolts;
            wantedVolts = value;
            return previous == value ? NONE : previous;
        }

        private int changeDoublingVolts(int value) {
            if (!isWithin(value, 1, MOST_DOUBLING_VOLTS)) {
                return BAD_VALUE;
            }
            int previous = doublingVolts;
            doublingVolts = value;
            return previous == value ? NONE : previous;
        }

        int letPass(int hours) {
            if (!isWithin(hours, 1, MOST_HOURS_AT_ONCE)) {
                return BAD_VALUE;
            }
            if (hour + hours > LAST_HOUR) {
                return FULL;
            }
            return passHours(hours);
        }

        /** Racks do not touch one another, so each can pass all hours by itself. */
        int passHours(int hours) {
            int ends = 0;
            for (int rack = 0; rack < RACKS; rack++) {
                ends += passHoursOfRack(rack, hours);
            }
            hour += hours;
            return ends;
        }

        /** Goes from change to change of the volts, as between two an hour wears like another. */
        private int passHoursOfRack(int rack, int hours) {
            int ends = 0;
            int stretch = 1;
            for (int passed = 0; passed < hours; passed += stretch) {
                stretch = Math.max(1, racks.hoursAtSameVolts(rack, hours - passed));
                ends += burnRack(rack, stretch, hour + passed);
                racks.countHours(rack, stretch);
            }
            return ends;
        }

        private int burnRack(int rack, int hours, int hourBefore) {
            if (racks.isDark(rack)) {
                return 0;
            }
            int ends = 0;
            for (int place = 0; place < PLACES; place++) {
                int spot = spotOf(rack, place);
                int lamp = racks.lampAt[spot];
                if (lamp != NO_LAMP && !lamps.isDead(lamp)) {
                    int wear = wearOfHour(racks.volts[rack], isHot(spot));
                    int left = lamps.hoursLeft(lamp, wear);
                    lamps.burn(lamp, wear, Math.min(left, hours));
                    if (left <= hours) {
                        lamps.end[lamp] = hourBefore + left;
                        ends++;
                    }
                }
            }
            return ends;
        }

        int wearOfHour(int volts, boolean hot) {
            int more = 10 * (volts - wantedVolts) / Math.max(1, doublingVolts);
            int wear = Math.max(1, 10 + more);
            return hot ? wear + wear / 10 : wear;
        }

        /** The reason for which a lamp does not burn, or 0. */
        int whyDark(int lamp) {
            if (lamps.isDead(lamp)) {
                return 1;
            }
            int spot = lamps.spot[lamp];
            if (spot == NO_SPOT) {
                return 2;
            }
            return racks.isDark(spot / PLACES) ? 3 : 0;
        }

        int tellOfLamp(int lamp, int what) {
            if (!lamps.has(lamp)) {
                return UNKNOWN;
            }
            int spot = lamps.spot[lamp];
            switch (what) {
                case 0:
                    return lamps.batch[lamp];
                case 1:
                    return spot == NO_SPOT ? NONE : spot / PLACES;
                case 2:
                    return spot == NO_SPOT ? NONE : spot % PLACES;
                case 3:
                    return lamps.canLast[lamp];
                case 4:
                    return lamps.wear[lamp];
                case 5:
                    return lamps.burned[lamp];
                case 6:
                    return lamps.hoursCounted(lamp);
                case 7:
                    return oneIf(lamps.isDead(lamp));
                case 8:
                    return lamps.isDead(lamp) ? lamps.end[lamp] : NONE;
                case 9:
                    return oneIf(isWeak(lamp));
                default:
                    return BAD_VALUE;
            }
        }

        int tellOfRack(int rack, int what) {
            if (!isRack(rack)) {
                return UNKNOWN;
            }
            int volts = racks.volts[rack];
            switch (what) {
                case 0:
                    return volts;
                case 1:
                    return countInRack(rack, true);
                case 2:
                    return countInRack(rack, false);
                case 3:
                    return racks.isDark(rack) ? 0 : wearOfHour(volts, false);
                case 4:
                    return racks.isDark(rack) ? 0 : wearOfHour(volts, true);
                case 5:
                    return racks.stepHours[rack];
                case 6:
                    return racks.stepVolts[rack];
                case 7:
                    return racks.hoursToStep(rack);
                default:
                    return BAD_VALUE;
            }
        }

        private int countInRack(int rack, boolean withDead) {
            int found = 0;
            for (int place = 0; place < PLACES; place++) {
                int lamp = racks.lampAt[spotOf(rack, place)];
                found += oneIf(lamp != NO_LAMP && (withDead || !lamps.isDead(lamp)));
            }
            return found;
        }

        int tellOfBatch(int batch, int what) {
            if (!isBatch(batch)) {
                return UNKNOWN;
            }
            int dead = lamps.countDeadOf(batch);
            int early = lamps.countDeadBelow(batch, batches.life[batch] / 2);
            switch (what) {
                case 0:
                    return batches.life[batch];
                case 1:
                    return batches.spread[batch];
                case 2:
                    return lamps.countOf(batch);
                case 3:
                    return dead;
                case 4:
                    return early;
                case 5:
                    return lamps.middleLife(batch);
                case 6:
                    return oneIf(2 * early > dead);
                default:
                    return BAD_VALUE;
            }
        }

        int tellOfAll(int what) {
            switch (what) {
                case 0:
                    return hour;
                case 1:
                    return lamps.size;
                case 2:
                    return lamps.countInRacks();
                case 3:
                    return countBurning();
                case 4:
                    return lamps.countDead();
                case 5:
                    return lamps.countWeak();
                case 6:
                    return lamps.sumOf(lamps.burned);
                case 7:
                    return lamps.sumOf(lamps.wear);
                case 8:
                    return wantedVolts;
                case 9:
                    return doublingVolts;
                default:
                    return BAD_VALUE;
            }
        }

        private int countBurning() {
            int found = 0;
            for (int lamp = 0; lamp < lamps.size; lamp++) {
                found += oneIf(whyDark(lamp) == 0);
            }
            return found;
        }
    }

    /** The states before the latest acts, the oldest first; all are made at once and used again. */
    private static final class History {
        int size = 0;
        private final State[] states = new State[MOST_STATES];

        History() {
            for (int index = 0; index < MOST_STATES; index++) {
                states[index] = new State();
            }
        }

        void append(State state) {
            if (size >= MOST_STATES) {
                dropOldest();
            }
            states[size].copyFrom(state);
            size++;
        }

        private void dropOldest() {
            State oldest = states[0];
            for (int index = 1; index < MOST_STATES; index++) {
                states[index - 1] = states[index];
            }
            states[MOST_STATES - 1] = oldest;
            size--;
        }

        /** To be called only if there is a state. */
        void moveLatestTo(State state) {
            if (size > 0) {
                size--;
                state.copyFrom(states[size]);
            }
        }
    }

    /** The text, with a reader that stands at the first character that it could not take. */
    private static final class Text {
        int length = 0;
        private final char[] characters = new char[MOST_CHARACTERS];
        private int position = 0;
        int things = 0;
        int kind = NO_CHARACTER;
        int rack = 0;
        int place = 0;
        int hours = 0;
        int direction = 1;
        int number = 0;

        int append(char character) {
            if (length >= MOST_CHARACTERS) {
                return FULL;
            }
            characters[length] = character;
            length++;
            return length;
        }

        int empty() {
            int previous = length;
            length = 0;
            return previous;
        }

        void startReading() {
            position = 0;
        }

        /** Reads the whole text, and counts its things as far as it has no fault. */
        int findFault() {
            startReading();
            things = 0;
            for (int read = 1; read <= MOST_CHARACTERS; read++) {
                if (!readThing()) {
                    return position;
                }
                things = read;
                if (position == length) {
                    return NO_FAULT;
                }
                if (!readSign(';')) {
                    return position;
                }
            }
            return position;
        }

        boolean readThing() {
            kind = current();
            switch (kind) {
                case 'p':
                    return readSign('p') && readSpot() && readSign(':') && readDigit(BATCHES - 1);
                case 't':
                    return readSign('t') && readSpot();
                case 'v':
                    return readSign('v') && readRackAndColon() && readNumber(0, MOST_VOLTS);
                case 's':
                    return readSign('s') && readRackAndColon() && readSteps();
                case '.':
                    return readSign('.') && readNumber(1, MOST_HOURS_AT_ONCE);
                default:
                    return false;
            }
        }

        boolean readSign(char sign) {
            if (current() != sign) {
                return false;
            }
            position++;
            return true;
        }

        private int current() {
            return position < length ? characters[position] : NO_CHARACTER;
        }

        private boolean readSpot() {
            if (!readRack() || !readDigit(PLACES - 1)) {
                return false;
            }
            place = number;
            return true;
        }

        private boolean readRackAndColon() {
            return readRack() && readSign(':');
        }

        private boolean readRack() {
            if (!readDigit(RACKS - 1)) {
                return false;
            }
            rack = number;
            return true;
        }

        private boolean readSteps() {
            if (!readNumber(0, MOST_STEP_HOURS)) {
                return false;
            }
            hours = number;
            return readDirection() && readNumber(0, MOST_STEP_VOLTS);
        }

        private boolean readDirection() {
            direction = current() == '-' ? -1 : 1;
            return readSign('-') || readSign('+');
        }

        private boolean readDigit(int most) {
            if (!isWithin(current(), '0', '0' + most)) {
                return false;
            }
            number = current() - '0';
            position++;
            return true;
        }

        /** From 0 or 1. Takes digits while they are allowed: what follows takes no digit either. */
        private boolean readNumber(int least, int most) {
            if (!isWithin(current(), '0' + least, '9')) {
                return false;
            }
            number = current() - '0';
            position++;
            while (position < length && number > 0 && isNextDigit(most)) {
                number = 10 * number + current() - '0';
                position++;
            }
            return true;
        }

        private boolean isNextDigit(int most) {
            return isWithin(current(), '0', '9') && 10 * number + current() - '0' <= most;
        }
    }
}
