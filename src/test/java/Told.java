/** Everything that a robot tells, as a text. */
final class Told {
    private Told() {
    }

    /** All answers but those of fate(). */
    static String all(DustRobot x) {
        return everything(x, 0);
    }

    /** All answers but those of fate(), the number of the states in the history and the length of the text. */
    static String state(DustRobot x) {
        return everything(x, 2);
    }

    private static String everything(DustRobot x, int countsLeftOut) {
        StringBuilder told = new StringBuilder();
        row(told, "count");
        for (int what = 0; what < 20 - countsLeftOut; what++) {
            told.append(' ').append(x.count(what));
        }
        row(told, "meter");
        for (int what = 0; what < 3; what++) {
            told.append(' ').append(Float.floatToRawIntBits(x.meter(what)));
        }
        tellItems(x, told);
        tellDrives(x, told);
        tellSlots(x, told);
        tellJobs(x, told);
        tellEvents(x, told);
        return told.toString();
    }

    private static void row(StringBuilder told, String name) {
        told.append(told.length() == 0 ? "" : "\n").append(name);
    }

    private static void tellItems(DustRobot x, StringBuilder told) {
        for (int item = 0; item < 20 && x.item(item, 0) != DustRobot.UNKNOWN; item++) {
            row(told, "item " + item);
            for (int what = 0; what < 8; what++) {
                told.append(' ').append(x.item(item, what));
            }
            told.append(' ').append(x.takes(0, item)).append(' ').append(x.takes(1, item));
        }
    }

    private static void tellDrives(DustRobot x, StringBuilder told) {
        for (int drive = 0; drive < 6 && x.drive(drive, 0) != DustRobot.UNKNOWN; drive++) {
            row(told, "drive " + drive);
            for (int what = 0; what < 6; what++) {
                told.append(' ').append(x.drive(drive, what));
            }
            told.append(' ').append(Float.floatToRawIntBits(x.dust(drive)));
            told.append(' ').append(Float.floatToRawIntBits(x.ceiling(drive)));
        }
    }

    private static void tellSlots(DustRobot x, StringBuilder told) {
        row(told, "slots");
        for (int slot = 0; slot < 24; slot++) {
            told.append(' ').append(x.homeOf(slot)).append('/').append(x.mayGo(slot));
        }
    }

    private static void tellJobs(DustRobot x, StringBuilder told) {
        for (int job = 0; job < 32 && x.job(job, 0) != DustRobot.UNKNOWN; job++) {
            row(told, "job " + job);
            for (int what = 0; what < 12; what++) {
                told.append(' ').append(x.job(job, what));
            }
        }
        row(told, "next " + x.next() + " order");
        for (int place = 0; place < 32 && x.order(place) != DustRobot.NONE; place++) {
            told.append(' ').append(x.order(place));
        }
    }

    private static void tellEvents(DustRobot x, StringBuilder told) {
        row(told, "events");
        for (int back = 0; back < 12 && x.event(back, 0) != DustRobot.NONE; back++) {
            told.append(" (");
            for (int what = 0; what < 4; what++) {
                told.append(what == 0 ? "" : " ").append(x.event(back, what));
            }
            told.append(')');
        }
    }
}
