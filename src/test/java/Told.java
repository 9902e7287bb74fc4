/**
 * Everything that a robot tells, as a text. The robot itself is not asked: copies of it are, one for each part of what
 * is told, so that no object is used for more calls than the document speaks of.
 */
final class Told {
    private static final int ALL_COUNTS = 20;
    private static final int COUNTS_OF_A_STATE = 18;

    private Told() {
    }

    /** All answers but those of fate(). */
    static String all(Robot x) {
        return everything(x, ALL_COUNTS);
    }

    /** All answers but those of fate(), the number of the states in the history and the length of the text. */
    static String state(Robot x) {
        return everything(x, COUNTS_OF_A_STATE);
    }

    private static String everything(Robot x, int counts) {
        StringBuilder told = new StringBuilder();
        tellCounts(x.again(), told, counts);
        tellDrives(x.again(), told);
        tellItems(x.again(), told);
        tellJobs(x.again(), told, 0, 15);
        tellJobs(x.again(), told, 15, 32);
        tellEvents(x.again(), told);
        return told.toString();
    }

    private static void row(StringBuilder told, String name) {
        told.append(told.length() == 0 ? "" : "\n").append(name);
    }

    private static void tellCounts(Robot x, StringBuilder told, int counts) {
        row(told, "count");
        for (int what = 0; what < counts; what++) {
            told.append(' ').append(x.count(what));
        }
        row(told, "meter");
        for (int what = 0; what < 3; what++) {
            told.append(' ').append(Float.floatToRawIntBits(x.meter(what)));
        }
        row(told, "slots");
        for (int slot = 0; slot < 24; slot++) {
            told.append(' ').append(x.homeOf(slot)).append('/').append(x.mayGo(slot));
        }
    }

    private static void tellDrives(Robot x, StringBuilder told) {
        for (int drive = 0; drive < 6 && x.drive(drive, 0) != DustRobot.UNKNOWN; drive++) {
            row(told, "drive " + drive);
            for (int what = 0; what < 6; what++) {
                told.append(' ').append(x.drive(drive, what));
            }
            told.append(' ').append(Float.floatToRawIntBits(x.dust(drive)));
            told.append(' ').append(Float.floatToRawIntBits(x.ceiling(drive)));
        }
    }

    private static void tellItems(Robot x, StringBuilder told) {
        for (int item = 0; item < 20 && x.item(item, 0) != DustRobot.UNKNOWN; item++) {
            row(told, "item " + item);
            for (int what = 0; what < 8; what++) {
                told.append(' ').append(x.item(item, what));
            }
            told.append(' ').append(x.takes(0, item)).append(' ').append(x.takes(1, item));
        }
    }

    private static void tellJobs(Robot x, StringBuilder told, int first, int end) {
        for (int job = first; job < end && x.job(job, 0) != DustRobot.UNKNOWN; job++) {
            row(told, "job " + job);
            for (int what = 0; what < 12; what++) {
                told.append(' ').append(x.job(job, what));
            }
        }
    }

    private static void tellEvents(Robot x, StringBuilder told) {
        row(told, "next " + x.next() + " order");
        for (int place = 0; place < 32 && x.order(place) != DustRobot.NONE; place++) {
            told.append(' ').append(x.order(place));
        }
        row(told, "events");
        for (int back = 0; back < 12 && x.event(back, 0) != DustRobot.NONE; back++) {
            told.append(" (");
            for (int what = 0; what < 4; what++) {
                told.append(what == 0 ? "" : " ").append(x.event(back, what));
            }
            told.append(')');
        }
    }
}
