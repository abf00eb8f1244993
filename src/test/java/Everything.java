/** All that a LampRacks tells of its state, in one text, so that two states can be compared. */
final class Everything {
    private static final int FIRST_LAMPS = 5;

    private Everything() {
    }

    /** Asks of the first and the last lamps alone, as an object answers no more than 512 calls. */
    static String told(LampRacks racks) {
        StringBuilder told = new StringBuilder();
        tellCounts(racks, told);
        int lamps = racks.count(1);
        for (int lamp = 0; lamp <= lamps; lamp++) {
            if (lamp < FIRST_LAMPS || lamp >= lamps - 1) {
                tellLamp(racks, lamp, told);
            }
        }
        tellRacks(racks, told);
        tellBatches(racks, told);
        for (int rank = 0; rank <= FIRST_LAMPS; rank++) {
            tell(told, "ended " + rank, racks.ended(rank));
        }
        return told.toString();
    }

    private static void tell(StringBuilder told, String name, int answer) {
        told.append(name).append(": ").append(answer).append('\n');
    }

    private static void tellCounts(LampRacks racks, StringBuilder told) {
        for (int what = 0; what <= 11; what++) {
            tell(told, "count " + what, racks.count(what));
        }
        tell(told, "next 0", racks.next(0));
        tell(told, "next 1", racks.next(1));
    }

    private static void tellLamp(LampRacks racks, int lamp, StringBuilder told) {
        for (int what = 0; what <= 9; what++) {
            tell(told, "lamp " + lamp + ", " + what, racks.lamp(lamp, what));
        }
        tell(told, "lasts " + lamp, racks.lasts(lamp, 233));
        tell(told, "reason " + lamp, racks.reason(lamp));
    }

    private static void tellRacks(LampRacks racks, StringBuilder told) {
        for (int rack = 0; rack <= 2; rack++) {
            for (int what = 0; what <= 7; what++) {
                tell(told, "rack " + rack + ", " + what, racks.rack(rack, what));
            }
            for (int place = 0; place <= 7; place++) {
                tell(told, "at " + rack + ", " + place, racks.at(rack, place));
            }
        }
    }

    private static void tellBatches(LampRacks racks, StringBuilder told) {
        for (int batch = 0; batch <= 5; batch++) {
            for (int what = 0; what <= 6; what++) {
                tell(told, "batch " + batch + ", " + what, racks.batch(batch, what));
            }
            tell(told, "lasted " + batch, racks.lasted(batch, 10));
        }
    }
}
