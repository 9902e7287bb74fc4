import java.util.ArrayList;
import java.util.List;

/**
 * A DustRobot under test. It counts its calls, as the document speaks of an object's first 512 calls alone, and keeps
 * those that may change something, so that the same robot can be made again and be looked at in place of this one.
 */
final class Robot {
    private static final int MOST_CALLS = 512;

    /** A call of any method of the face that answers an int. */
    interface Call {
        int on(Robot x);
    }

    private final DustRobot robot = new DustRobot();
    private final List<Call> changes = new ArrayList<>();
    private int calls = 0;
    private String lastName = "new DustRobot";
    private int[] lastArguments = {};

    /** Another robot on which the same was done. */
    Robot again() {
        Robot other = new Robot();
        for (Call change : changes) {
            change.on(other);
        }
        return other;
    }

    int calls() {
        return calls;
    }

    /** How many calls were those that may change something. */
    int changes() {
        return changes.size();
    }

    /** The latest call, as it is written in Java. */
    String lastCall() {
        StringBuilder written = new StringBuilder(lastName).append('(');
        for (int i = 0; i < lastArguments.length; i++) {
            written.append(i == 0 ? "" : ", ").append(lastArguments[i]);
        }
        return written.append(')').toString();
    }

    private DustRobot asked(String name, int... arguments) {
        if (calls >= MOST_CALLS) {
            throw new IllegalStateException("a test calls one object more than " + MOST_CALLS + " times");
        }
        calls++;
        lastName = name;
        lastArguments = arguments;
        return robot;
    }

    private DustRobot changed(Call change, String name, int... arguments) {
        changes.add(change);
        return asked(name, arguments);
    }

    // ---- calls that may change something

    int addDrive(int slot) {
        return changed(x -> x.addDrive(slot), "addDrive", slot).addDrive(slot);
    }

    int addTape(int slot, int frailty) {
        return changed(x -> x.addTape(slot, frailty), "addTape", slot, frailty).addTape(slot, frailty);
    }

    int addCleaner(int slot, int uses) {
        return changed(x -> x.addCleaner(slot, uses), "addCleaner", slot, uses).addCleaner(slot, uses);
    }

    int refill(int item, int uses) {
        return changed(x -> x.refill(item, uses), "refill", item, uses).refill(item, uses);
    }

    int setLimit(int bits) {
        return changed(x -> x.setLimit(bits), "setLimit", bits).setLimit(bits);
    }

    int setCeiling(int drive, int bits) {
        return changed(x -> x.setCeiling(drive, bits), "setCeiling", drive, bits).setCeiling(drive, bits);
    }

    int setOrder(int first, int second) {
        return changed(x -> x.setOrder(first, second), "setOrder", first, second).setOrder(first, second);
    }

    int read(int item) {
        return changed(x -> x.read(item), "read", item).read(item);
    }

    int clean(int drive) {
        return changed(x -> x.clean(drive), "clean", drive).clean(drive);
    }

    int move(int item, int slot) {
        return changed(x -> x.move(item, slot), "move", item, slot).move(item, slot);
    }

    int putOff(int job, int tick) {
        return changed(x -> x.putOff(job, tick), "putOff", job, tick).putOff(job, tick);
    }

    int withdraw(int job) {
        return changed(x -> x.withdraw(job), "withdraw", job).withdraw(job);
    }

    int tick(int ticks) {
        return changed(x -> x.tick(ticks), "tick", ticks).tick(ticks);
    }

    int type(char character) {
        return changed(x -> x.type(character), "type", character).type(character);
    }

    int clearText() {
        return changed(Robot::clearText, "clearText").clearText();
    }

    int readJobs() {
        return changed(Robot::readJobs, "readJobs").readJobs();
    }

    int undo() {
        return changed(Robot::undo, "undo").undo();
    }

    int keep() {
        return changed(Robot::keep, "keep").keep();
    }

    int restore() {
        return changed(Robot::restore, "restore").restore();
    }

    // ---- calls that only ask

    int item(int item, int what) {
        return asked("item", item, what).item(item, what);
    }

    int homeOf(int slot) {
        return asked("homeOf", slot).homeOf(slot);
    }

    int drive(int drive, int what) {
        return asked("drive", drive, what).drive(drive, what);
    }

    float dust(int drive) {
        return asked("dust", drive).dust(drive);
    }

    float ceiling(int drive) {
        return asked("ceiling", drive).ceiling(drive);
    }

    float meter(int what) {
        return asked("meter", what).meter(what);
    }

    int job(int job, int what) {
        return asked("job", job, what).job(job, what);
    }

    int order(int place) {
        return asked("order", place).order(place);
    }

    int next() {
        return asked("next").next();
    }

    int mayGo(int slot) {
        return asked("mayGo", slot).mayGo(slot);
    }

    int fate(int job, int what) {
        return asked("fate", job, what).fate(job, what);
    }

    int takes(int sort, int item) {
        return asked("takes", sort, item).takes(sort, item);
    }

    int event(int back, int what) {
        return asked("event", back, what).event(back, what);
    }

    int count(int what) {
        return asked("count", what).count(what);
    }

    // ---- rows of calls

    /** Types all characters of the text. */
    void typeAll(String text) {
        for (int i = 0; i < text.length(); i++) {
            type(text.charAt(i));
        }
    }

    /** Makes this the text, and answers what readJobs() does. */
    int readJobsOf(String text) {
        clearText();
        typeAll(text);
        return readJobs();
    }
}
