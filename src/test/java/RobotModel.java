import java.util.ArrayList;
import java.util.Comparator;
import java.util.List;
import java.util.TreeMap;
import java.util.regex.Matcher;
import java.util.regex.Pattern;

/**
 * The document told a second time, with the Java library and with no thought of speed, to compare the program with.
 * It is written on its own: it shares neither code nor the way of holding the state with the program.
 */
final class RobotModel {
    static final int UNKNOWN = -1;
    static final int BAD_VALUE = -2;
    static final int FULL = -3;
    static final int NOT_POSSIBLE = -4;
    static final int NONE = -5;

    private static final String NUMBER = "(0|[1-9][0-9]?)";
    private static final String ONE_JOB = "(r" + NUMBER + "|c" + NUMBER + "|m" + NUMBER + ">" + NUMBER + ")";
    private static final Pattern JOBS = Pattern.compile(ONE_JOB + "(;" + ONE_JOB + ")*");

    /** A state: numbers by their names, amounts by their names, the log, and nothing else. */
    private static final class Known {
        final TreeMap<String, Integer> numbers = new TreeMap<>();
        final TreeMap<String, Float> amounts = new TreeMap<>();
        final List<int[]> log = new ArrayList<>();

        Known copy() {
            Known other = new Known();
            other.numbers.putAll(numbers);
            other.amounts.putAll(amounts);
            other.log.addAll(log);
            return other;
        }
    }

    private Known k = new Known();
    private final List<Known> history = new ArrayList<>();
    private Known snapshot = null;
    private final StringBuilder text = new StringBuilder();

    RobotModel() {
        for (String name : new String[] {"items", "drives", "jobs", "tick", "at", "pleas", "gone", "idle"}) {
            k.numbers.put(name, 0);
        }
        put("hand", NONE);
        put("own", NONE);
        for (int kind = 0; kind < 3; kind++) {
            put("rank" + kind, kind);
        }
        k.amounts.put("meter", 0.0f);
        k.amounts.put("limit", 20.0f);
    }

    private int get(String name) {
        return k.numbers.get(name);
    }

    private void put(String name, int value) {
        k.numbers.put(name, value);
    }

    private void more(String name) {
        put(name, get(name) + 1);
    }

    private float amount(String name) {
        return k.amounts.get(name);
    }

    private void record() {
        history.add(k.copy());
        if (history.size() == 5) {
            history.remove(0);
        }
    }

    private static boolean isSlot(int slot) {
        return 0 <= slot && slot <= 23;
    }

    private boolean isItem(int item) {
        return 0 <= item && item < get("items");
    }

    private boolean isDrive(int drive) {
        return 0 <= drive && drive < get("drives");
    }

    private boolean isJob(int job) {
        return 0 <= job && job < get("jobs");
    }

    int jobs() {
        return get("jobs");
    }

    private boolean isCleaner(int item) {
        return get("item.cleaner" + item) == 1;
    }

    int addDrive(int slot) {
        if (!isSlot(slot)) {
            return UNKNOWN;
        }
        for (int drive = 0; drive < get("drives"); drive++) {
            if (get("drive.slot" + drive) == slot) {
                return NOT_POSSIBLE;
            }
        }
        if (get("drives") == 4) {
            return FULL;
        }
        record();
        int drive = get("drives");
        more("drives");
        put("drive.slot" + drive, slot);
        put("drive.reads" + drive, 0);
        put("drive.lost" + drive, 0);
        put("drive.cleanings" + drive, 0);
        k.amounts.put("dust" + drive, 0.0f);
        k.amounts.put("ceiling" + drive, 8.0f);
        return drive;
    }

    private int addItem(int slot, boolean good, int cleaner, int uses, int bits) {
        if (!isSlot(slot)) {
            return UNKNOWN;
        }
        if (!good) {
            return BAD_VALUE;
        }
        int own = get("own");
        if (homeOf(slot) != NONE || own != NONE && get("job.kind" + own) == 2 && get("job.slot" + own) == slot) {
            return NOT_POSSIBLE;
        }
        if (get("items") == 18) {
            return FULL;
        }
        record();
        int item = get("items");
        more("items");
        put("item.cleaner" + item, cleaner);
        put("item.home" + item, slot);
        put("item.where" + item, 0);
        put("item.drive" + item, NONE);
        put("item.amount" + item, uses);
        put("item.bits" + item, bits);
        put("item.lost" + item, 0);
        return item;
    }

    private static boolean isFloat(int bits, float least, float most) {
        float value = Float.intBitsToFloat(bits);
        return value >= least && value <= most && bits != Float.floatToRawIntBits(-0.0f);
    }

    int addTape(int slot, int frailty) {
        return addItem(slot, isFloat(frailty, 0.0f, 1.0f), 0, 0, frailty);
    }

    int addCleaner(int slot, int uses) {
        return addItem(slot, 1 <= uses && uses <= 50, 1, uses, 0);
    }

    int refill(int item, int uses) {
        if (!isItem(item)) {
            return UNKNOWN;
        }
        if (uses < 1 || uses > 50) {
            return BAD_VALUE;
        }
        if (!isCleaner(item)) {
            return NOT_POSSIBLE;
        }
        int had = get("item.amount" + item);
        if (had == uses) {
            return NONE;
        }
        record();
        put("item.amount" + item, uses);
        return had;
    }

    private int setAmount(String name, int bits, float most) {
        if (!isFloat(bits, 1.0f, most)) {
            return BAD_VALUE;
        }
        float value = Float.intBitsToFloat(bits);
        if (amount(name) == value) {
            return NONE;
        }
        record();
        k.amounts.put(name, value);
        return 1;
    }

    int setLimit(int bits) {
        return setAmount("limit", bits, 1000.0f);
    }

    int setCeiling(int drive, int bits) {
        return isDrive(drive) ? setAmount("ceiling" + drive, bits, 500.0f) : UNKNOWN;
    }

    int setOrder(int first, int second) {
        if (first < 0 || first > 2 || second < 0 || second > 2 || first == second) {
            return BAD_VALUE;
        }
        if (get("rank" + first) == 0 && get("rank" + second) == 1) {
            return NONE;
        }
        record();
        int third = 0;
        while (third == first || third == second) {
            third++;
        }
        put("rank" + first, 0);
        put("rank" + second, 1);
        put("rank" + third, 2);
        return third;
    }

    private int fault(int kind, int target, int slot) {
        if (kind == 1) {
            return isDrive(target) ? 0 : UNKNOWN;
        }
        if (!isItem(target) || kind == 2 && !isSlot(slot)) {
            return UNKNOWN;
        }
        return kind == 0 && isCleaner(target) ? NOT_POSSIBLE : 0;
    }

    private int give(int kind, int target, int slot) {
        int fault = fault(kind, target, slot);
        if (fault != 0) {
            return fault;
        }
        if (get("jobs") == 30) {
            return FULL;
        }
        record();
        return enter(kind, target, slot);
    }

    private int enter(int kind, int target, int slot) {
        int job = get("jobs");
        more("jobs");
        put("job.kind" + job, kind);
        put("job.target" + job, target);
        put("job.slot" + job, kind == 2 ? slot : NONE);
        for (String zero : new String[] {"state", "step", "pleas", "until", "lost"}) {
            put("job." + zero + job, 0);
        }
        for (String none : new String[] {"began", "ended", "drive", "cleaner", "reason"}) {
            put("job." + none + job, NONE);
        }
        return job;
    }

    int read(int item) {
        return give(0, item, NONE);
    }

    int clean(int drive) {
        return give(1, drive, NONE);
    }

    int move(int item, int slot) {
        return give(2, item, slot);
    }

    int putOff(int job, int tick) {
        if (!isJob(job)) {
            return UNKNOWN;
        }
        if (tick < 0 || tick > 9999) {
            return BAD_VALUE;
        }
        if (get("job.state" + job) != 0) {
            return NOT_POSSIBLE;
        }
        int until = get("job.until" + job);
        if (until == tick) {
            return NONE;
        }
        record();
        put("job.until" + job, tick);
        return until;
    }

    int withdraw(int job) {
        if (!isJob(job)) {
            return UNKNOWN;
        }
        if (get("job.state" + job) != 0) {
            return NOT_POSSIBLE;
        }
        record();
        put("job.state" + job, 4);
        put("job.ended" + job, get("tick"));
        return jobsIn(0);
    }

    private int jobsIn(int state) {
        int jobs = 0;
        for (int job = 0; job < get("jobs"); job++) {
            jobs += get("job.state" + job) == state ? 1 : 0;
        }
        return jobs;
    }

    int tick(int ticks) {
        if (ticks < 1 || ticks > 100) {
            return BAD_VALUE;
        }
        if (get("tick") + ticks > 10000) {
            return NOT_POSSIBLE;
        }
        record();
        int done = jobsIn(2);
        for (int i = 0; i < ticks; i++) {
            pass();
        }
        return jobsIn(2) - done;
    }

    // ---- a tick

    private void pass() {
        if (get("own") == NONE && next() != NONE) {
            begin(next());
        }
        if (get("own") == NONE) {
            more("idle");
        } else {
            step(get("own"));
        }
        k.amounts.put("meter", amount("meter") * 0.75f);
        more("tick");
    }

    private void logged(int kind, int drive) {
        k.log.add(0, new int[] {kind, get("own"), drive, get("tick")});
        while (k.log.size() > 10) {
            k.log.remove(10);
        }
    }

    private boolean isDusty(int drive) {
        return amount("dust" + drive) > amount("ceiling" + drive);
    }

    private List<Integer> waiting() {
        List<Integer> jobs = new ArrayList<>();
        for (int job = 0; job < get("jobs"); job++) {
            if (get("job.state" + job) == 0) {
                jobs.add(job);
            }
        }
        jobs.sort(Comparator.comparingInt((Integer job) ->
            get("job.kind" + job) == 1 && isDusty(get("job.target" + job)) ? -1 : get("rank" + get("job.kind" + job)))
            .thenComparingInt(job -> job));
        return jobs;
    }

    private int driveToTake() {
        List<Integer> drives = new ArrayList<>();
        for (int drive = 0; drive < get("drives"); drive++) {
            if (!isDusty(drive)) {
                drives.add(drive);
            }
        }
        drives.sort(Comparator.comparing((Integer drive) -> amount("dust" + drive)).thenComparingInt(drive -> drive));
        return drives.isEmpty() ? NONE : drives.get(0);
    }

    private int cleanerToTake() {
        List<Integer> cleaners = new ArrayList<>();
        for (int item = 0; item < get("items"); item++) {
            if (isCleaner(item) && get("item.amount" + item) > 0) {
                cleaners.add(item);
            }
        }
        cleaners.sort(Comparator.comparingInt((Integer item) -> Math.abs(get("item.home" + item) - get("at")))
            .thenComparingInt(item -> item));
        return cleaners.isEmpty() ? NONE : cleaners.get(0);
    }

    int next() {
        for (int job : waiting()) {
            int kind = get("job.kind" + job);
            int there = kind == 2 ? homeOf(get("job.slot" + job)) : NONE;
            boolean can = kind == 0 && driveToTake() != NONE || kind == 1 && cleanerToTake() != NONE
                || kind == 2 && (there == NONE || there == get("job.target" + job));
            if (can && get("tick") >= get("job.until" + job)) {
                return job;
            }
        }
        return NONE;
    }

    private void begin(int job) {
        put("own", job);
        put("job.state" + job, 1);
        put("job.began" + job, get("tick"));
        int kind = get("job.kind" + job);
        if (kind == 0) {
            put("job.drive" + job, driveToTake());
        }
        if (kind == 1) {
            put("job.drive" + job, get("job.target" + job));
            put("job.cleaner" + job, cleanerToTake());
        }
        logged(0, NONE);
    }

    private void step(int job) {
        int kind = get("job.kind" + job);
        int item = get((kind == 1 ? "job.cleaner" : "job.target") + job);
        int drive = get("job.drive" + job);
        String[] reading = {"home", "take", "drive", "load", "use", "unload", "home", "put"};
        String[] moving = {"home", "take", "aim", "put"};
        String[] steps = kind == 2 ? moving : reading;
        switch (steps[get("job.step" + job)]) {
            case "home":
                if (!go(job, get("item.home" + item))) {
                    return;
                }
                break;
            case "drive":
                if (!go(job, get("drive.slot" + drive))) {
                    return;
                }
                break;
            case "aim":
                if (!go(job, get("job.slot" + job))) {
                    return;
                }
                break;
            case "take":
                place(item, 1, NONE);
                break;
            case "load":
                place(item, 2, drive);
                break;
            case "unload":
                place(item, 1, NONE);
                break;
            case "put":
                place(item, 0, NONE);
                put("item.home" + item, get("at"));
                break;
            default:
                if (!use(job, kind, item, drive)) {
                    return;
                }
                break;
        }
        more("job.step" + job);
        if (get("job.step" + job) == steps.length) {
            boolean lost = get("job.reason" + job) != NONE;
            put("job.state" + job, lost ? 3 : 2);
            put("job.ended" + job, get("tick"));
            logged(lost ? 6 : 5, NONE);
            put("own", NONE);
        }
    }

    private void place(int item, int where, int drive) {
        put("item.where" + item, where);
        put("item.drive" + item, drive);
        put("hand", where == 1 ? item : NONE);
    }

    private boolean mayGo(float meter, int slot) {
        int distance = Math.abs(slot - get("at"));
        int hand = get("hand");
        float load = hand == NONE ? 0.5f : isCleaner(hand) ? 1.5f : 1.0f;
        return distance == 0 || meter + distance * load <= amount("limit");
    }

    private boolean go(int job, int slot) {
        if (!mayGo(amount("meter"), slot)) {
            more("job.pleas" + job);
            more("pleas");
            logged(4, NONE);
            return false;
        }
        int distance = Math.abs(slot - get("at"));
        int hand = get("hand");
        float load = hand == NONE ? 0.5f : isCleaner(hand) ? 1.5f : 1.0f;
        if (distance > 0) {
            k.amounts.put("meter", amount("meter") + distance * load);
            put("gone", get("gone") + distance);
            put("at", slot);
        }
        return true;
    }

    private boolean use(int job, int kind, int item, int drive) {
        float dust = amount("dust" + drive);
        if (kind == 1) {
            k.amounts.put("dust" + drive, dust * 0.125f);
            put("item.amount" + item, get("item.amount" + item) - 1);
            more("drive.cleanings" + drive);
            logged(3, drive);
            return true;
        }
        if (isDusty(drive)) {
            put("job.reason" + job, 1);
            return true;
        }
        float product = dust * Float.intBitsToFloat(get("item.bits" + item));
        boolean lost = product > 3.0f;
        float eighths = get("item.amount" + item) * 0.125f;
        float gain = 1.0f + eighths;
        k.amounts.put("dust" + drive, dust + gain);
        more("item.amount" + item);
        more("drive.reads" + drive);
        logged(lost ? 2 : 1, drive);
        if (!lost) {
            return true;
        }
        more("item.lost" + item);
        more("drive.lost" + drive);
        more("job.lost" + job);
        if (get("job.lost" + job) == 3) {
            put("job.reason" + job, 2);
            return true;
        }
        return false;
    }

    // ---- texts

    int type(char character) {
        if (text.length() == 60) {
            return FULL;
        }
        text.append(character);
        return text.length();
    }

    int clearText() {
        int length = text.length();
        text.setLength(0);
        return length;
    }

    int readJobs() {
        if (!JOBS.matcher(text).matches()) {
            return -100 - faultOfText();
        }
        String[] parts = text.toString().split(";");
        List<int[]> jobs = new ArrayList<>();
        for (String part : parts) {
            int kind = "rcm".indexOf(part.charAt(0));
            String[] numbers = part.substring(1).split(">");
            jobs.add(new int[] {kind, Integer.parseInt(numbers[0]), kind == 2 ? Integer.parseInt(numbers[1]) : NONE});
        }
        for (int[] job : jobs) {
            int fault = fault(job[0], job[1], job[2]);
            if (fault != 0) {
                return fault;
            }
        }
        if (get("jobs") + jobs.size() > 30) {
            return FULL;
        }
        record();
        for (int[] job : jobs) {
            enter(job[0], job[1], job[2]);
        }
        return jobs.size();
    }

    /** The first character with which no text of jobs goes on, or the length. */
    private int faultOfText() {
        for (int i = 0; i < text.length(); i++) {
            Matcher matcher = JOBS.matcher(text.substring(0, i + 1));
            if (!matcher.matches() && !matcher.hitEnd()) {
                return i;
            }
        }
        return text.length();
    }

    // ---- history

    int undo() {
        if (history.isEmpty()) {
            return NONE;
        }
        k = history.remove(history.size() - 1);
        return history.size();
    }

    int keep() {
        snapshot = k.copy();
        return get("tick");
    }

    int restore() {
        if (snapshot == null) {
            return NONE;
        }
        record();
        k = snapshot.copy();
        return get("tick");
    }

    // ---- what is told

    int item(int item, int what) {
        if (!isItem(item)) {
            return UNKNOWN;
        }
        if (what < 0 || what > 7) {
            return BAD_VALUE;
        }
        if (what < 7) {
            return get("item." + new String[] {"cleaner", "home", "where", "drive", "amount", "bits", "lost"}[what] + item);
        }
        int jobs = 0;
        for (int job = 0; job < get("jobs"); job++) {
            int state = get("job.state" + job);
            boolean cleaning = get("job.kind" + job) == 1;
            jobs += !cleaning && state < 2 && get("job.target" + job) == item ? 1 : 0;
            jobs += cleaning && state == 1 && get("job.cleaner" + job) == item ? 1 : 0;
        }
        return jobs;
    }

    int homeOf(int slot) {
        if (!isSlot(slot)) {
            return UNKNOWN;
        }
        for (int item = 0; item < get("items"); item++) {
            if (get("item.home" + item) == slot) {
                return item;
            }
        }
        return NONE;
    }

    int drive(int drive, int what) {
        if (!isDrive(drive)) {
            return UNKNOWN;
        }
        switch (what) {
            case 0: return get("drive.slot" + drive);
            case 1: return get("drive.reads" + drive);
            case 2: return get("drive.lost" + drive);
            case 3: return get("drive.cleanings" + drive);
            case 4:
                for (int item = 0; item < get("items"); item++) {
                    if (get("item.where" + item) == 2 && get("item.drive" + item) == drive) {
                        return item;
                    }
                }
                return NONE;
            case 5: return isDusty(drive) ? 1 : 0;
            default: return BAD_VALUE;
        }
    }

    float dust(int drive) {
        return isDrive(drive) ? amount("dust" + drive) : Float.NaN;
    }

    float ceiling(int drive) {
        return isDrive(drive) ? amount("ceiling" + drive) : Float.NaN;
    }

    float meter(int what) {
        if (what != 2) {
            return what == 0 ? amount("meter") : what == 1 ? amount("limit") : Float.NaN;
        }
        float sum = 0.0f;
        for (int drive = 0; drive < get("drives"); drive++) {
            sum += amount("dust" + drive);
        }
        return sum;
    }

    int job(int job, int what) {
        if (!isJob(job)) {
            return UNKNOWN;
        }
        String[] names = {"kind", "target", "slot", "state", "began", "ended", "step", "drive", "cleaner", "reason",
            "pleas", "until"};
        if (what < 0 || what >= names.length) {
            return BAD_VALUE;
        }
        return what == 6 && get("own") != job ? NONE : get("job." + names[what] + job);
    }

    int order(int place) {
        if (place < 0) {
            return BAD_VALUE;
        }
        List<Integer> jobs = waiting();
        return place < jobs.size() ? jobs.get(place) : NONE;
    }

    int mayGo(int slot) {
        if (!isSlot(slot)) {
            return UNKNOWN;
        }
        float meter = amount("meter");
        int ticks = 0;
        while (ticks <= 100) {
            if (mayGo(meter, slot)) {
                return ticks;
            }
            meter *= 0.75f;
            ticks++;
        }
        return NONE;
    }

    int fate(int job, int what) {
        if (!isJob(job)) {
            return UNKNOWN;
        }
        if (what < 0 || what > 2) {
            return BAD_VALUE;
        }
        if (get("job.state" + job) > 1) {
            return NOT_POSSIBLE;
        }
        Known now = k;
        k = k.copy();
        int ticks = 0;
        while (ticks < 400 && get("job.state" + job) < 2) {
            pass();
            ticks++;
        }
        int state = get("job.state" + job);
        int answer = what == 0 ? state : what == 1 ? ticks : get("job.pleas" + job);
        k = now;
        return state < 2 ? NONE : answer;
    }

    int takes(int sort, int item) {
        if (!isItem(item)) {
            return UNKNOWN;
        }
        if (sort != 0 && sort != 1) {
            return BAD_VALUE;
        }
        return get("item.cleaner" + item) == sort ? 1 : 0;
    }

    int event(int back, int what) {
        if (back < 0 || what < 0 || what > 3) {
            return BAD_VALUE;
        }
        return back < k.log.size() ? k.log.get(back)[what] : NONE;
    }

    private int sum(String name, String many) {
        int sum = 0;
        for (int i = 0; i < get(many); i++) {
            sum += get(name + i);
        }
        return sum;
    }

    int count(int what) {
        switch (what) {
            case 0: return get("tick");
            case 1: return get("at");
            case 2: return get("hand");
            case 3: return get("own");
            case 4: case 5: case 6: case 7: case 8: return jobsIn(what - 4);
            case 9: return get("items");
            case 10: return get("drives");
            case 11: return sum("drive.reads", "drives");
            case 12: return sum("drive.lost", "drives");
            case 13: return sum("drive.cleanings", "drives");
            case 14: return get("pleas");
            case 15: return get("gone");
            case 16: return get("idle");
            case 17:
                int uses = 0;
                for (int item = 0; item < get("items"); item++) {
                    uses += isCleaner(item) ? get("item.amount" + item) : 0;
                }
                return uses;
            case 18: return history.size();
            case 19: return text.length();
            default: return BAD_VALUE;
        }
    }
}
