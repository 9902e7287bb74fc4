import java.util.Random;

/**
 * Runs of calls by chance, with fixed seeds, on the program and on the model: each answer is compared, and now and then
 * all that is told, on copies of the robot, as an object is used for at most 512 calls.
 */
final class ModelTest {
    private static final int RUNS = 600;
    // An act types some seventy characters at most, and what is compared on a copy takes some two hundred calls.
    private static final int CALLS = 420;
    private static final int CHANGES = 230;
    private static final int LONGEST_TEXT = 64;

    private final Checks checks = new Checks();
    private final Random random;
    private final Robot x = new Robot();
    private final RobotModel m = new RobotModel();

    private ModelTest(int seed) {
        random = new Random(seed);
        checks.title("run " + seed);
    }

    public static void main(String[] args) {
        int wrong = 0;
        for (int seed = 0; seed < RUNS && wrong == 0; seed++) {
            ModelTest test = new ModelTest(seed);
            test.run(seed % 4);
            wrong += test.checks.wrong();
        }
        System.out.println(RUNS + " runs, " + wrong + " answers not as due");
        System.exit(wrong == 0 ? 0 : 1);
    }

    private void run(int manner) {
        if (manner != 0) {
            furnish();
        }
        int acts = 0;
        while (x.calls() < CALLS && x.changes() < CHANGES && checks.wrong() == 0) {
            act(manner);
            ask();
            ask();
            acts++;
            if (acts % 32 == 0) {
                compareAll();
            }
        }
        compareAll();
    }

    private int below(int bound) {
        return random.nextInt(bound);
    }

    /** Mostly a good number, now and then one at an edge or far away. */
    private int about(int bound) {
        int chance = below(40);
        if (chance > 3) {
            return below(Math.max(bound, 1));
        }
        int[] edges = {-1, bound, random.nextInt(), below(2) == 0 ? Integer.MIN_VALUE : Integer.MAX_VALUE};
        return edges[chance];
    }

    private int frailty() {
        float[] some = {0.0f, 1.0f, 0.5f, 0.75f, random.nextFloat(), random.nextFloat(), Float.MIN_VALUE};
        int[] wrong = {Float.floatToRawIntBits(-0.0f), 0x3F800001, Float.floatToRawIntBits(Float.NaN), random.nextInt()};
        return below(15) == 0 ? wrong[below(4)] : Float.floatToRawIntBits(some[below(some.length)]);
    }

    private int amount(float most) {
        float[] some = {1.0f, most, 2.0f + 10.0f * random.nextFloat(), 2.0f + 30.0f * random.nextFloat(), 8.0f, 20.0f};
        int[] wrong = {0x3F7FFFFF, Float.floatToRawIntBits(most) + 1, Float.floatToRawIntBits(Float.NaN), random.nextInt()};
        return below(15) == 0 ? wrong[below(4)] : Float.floatToRawIntBits(some[below(some.length)]);
    }

    private void furnish() {
        for (int i = below(4); i >= 0; i--) {
            addDrive();
        }
        for (int i = 2 + below(14); i >= 0; i--) {
            if (below(4) == 0) {
                addCleaner();
            } else {
                addTape();
            }
        }
    }

    private void addDrive() {
        int slot = about(24);
        checks.due("addDrive(" + slot + ")", x.addDrive(slot), m.addDrive(slot));
    }

    private void addTape() {
        int slot = about(24);
        int frailty = frailty();
        checks.due("addTape(" + slot + ", " + frailty + ")", x.addTape(slot, frailty), m.addTape(slot, frailty));
    }

    private void addCleaner() {
        int slot = about(24);
        int uses = below(3) == 0 ? about(53) : 1 + below(3);
        checks.due("addCleaner(" + slot + ", " + uses + ")", x.addCleaner(slot, uses), m.addCleaner(slot, uses));
    }

    private void act(int manner) {
        int chance = below(100);
        if (chance < 32) {
            tick(manner);
        } else if (chance < 55) {
            giveJob();
        } else if (chance < 62) {
            changeJob();
        } else if (chance < 74) {
            change();
        } else if (chance < 82) {
            turnBack();
        } else if (chance < 90) {
            useText();
        } else {
            add();
        }
    }

    private void tick(int manner) {
        int most = manner == 1 ? 3 : manner == 2 ? 12 : 101;
        int ticks = below(30) == 0 ? about(101) : 1 + below(most);
        checks.due("tick(" + ticks + ")", x.tick(ticks), m.tick(ticks));
    }

    private void giveJob() {
        int item = about(m.count(9));
        int drive = about(m.count(10));
        int slot = about(24);
        switch (below(3)) {
            case 0:
                checks.due("read(" + item + ")", x.read(item), m.read(item));
                break;
            case 1:
                checks.due("clean(" + drive + ")", x.clean(drive), m.clean(drive));
                break;
            default:
                checks.due("move(" + item + ", " + slot + ")", x.move(item, slot), m.move(item, slot));
                break;
        }
    }

    private void changeJob() {
        int job = about(30);
        int tick = below(3) == 0 ? about(10000) : m.count(0) + below(30);
        if (below(3) == 0) {
            checks.due("withdraw(" + job + ")", x.withdraw(job), m.withdraw(job));
        } else {
            checks.due("putOff(" + job + ", " + tick + ")", x.putOff(job, tick), m.putOff(job, tick));
        }
    }

    private void change() {
        int item = about(m.count(9));
        int uses = about(52);
        int drive = about(m.count(10));
        int limit = amount(1000.0f);
        int ceiling = amount(500.0f);
        int first = about(3);
        int second = about(3);
        switch (below(4)) {
            case 0:
                checks.due("refill(" + item + ", " + uses + ")", x.refill(item, uses), m.refill(item, uses));
                break;
            case 1:
                checks.due("setLimit(" + limit + ")", x.setLimit(limit), m.setLimit(limit));
                break;
            case 2:
                checks.due("setCeiling(" + drive + ", " + ceiling + ")", x.setCeiling(drive, ceiling),
                    m.setCeiling(drive, ceiling));
                break;
            default:
                checks.due("setOrder(" + first + ", " + second + ")", x.setOrder(first, second),
                    m.setOrder(first, second));
                break;
        }
    }

    private void turnBack() {
        switch (below(4)) {
            case 0:
                checks.due("keep()", x.keep(), m.keep());
                break;
            case 1:
                checks.due("restore()", x.restore(), m.restore());
                break;
            default:
                checks.due("undo()", x.undo(), m.undo());
                break;
        }
    }

    private void add() {
        switch (below(3)) {
            case 0:
                addDrive();
                break;
            case 1:
                addTape();
                break;
            default:
                addCleaner();
                break;
        }
    }

    // ---- texts

    private void useText() {
        if (below(3) > 0) {
            checks.due("clearText()", x.clearText(), m.clearText());
        }
        String text = text();
        for (int i = 0; i < text.length(); i++) {
            checks.due("type(" + (int) text.charAt(i) + ")", x.type(text.charAt(i)), m.type(text.charAt(i)));
        }
        checks.due("readJobs() of " + text, x.readJobs(), m.readJobs());
        if (below(3) == 0) {
            checks.due("undo()", x.undo(), m.undo());
        }
    }

    private String text() {
        StringBuilder text = new StringBuilder();
        for (int jobs = below(below(6) == 0 ? 25 : 4); jobs >= 0; jobs--) {
            text.append(text.length() == 0 ? "" : ";").append(jobText());
        }
        String signs = "rcm>;0123456789 :/" + (char) 0x660 + (char) 0;
        for (int faults = below(5) < 3 ? 0 : 1 + below(2); faults > 0; faults--) {
            int at = below(text.length() + 1);
            if (below(2) == 0 || at == text.length()) {
                text.insert(at, signs.charAt(below(signs.length())));
            } else if (below(2) == 0) {
                text.deleteCharAt(at);
            } else {
                text.setLength(at);
            }
        }
        text.setLength(Math.min(text.length(), LONGEST_TEXT));
        return text.toString();
    }

    private String jobText() {
        int item = below(m.count(9) + (below(9) == 0 ? 3 : 0) + (m.count(9) == 0 ? 1 : 0));
        int drive = below(m.count(10) + (below(9) == 0 ? 2 : 0) + (m.count(10) == 0 ? 1 : 0));
        int slot = below(below(9) == 0 ? 100 : 24);
        String[] jobs = {"r" + item, "c" + drive, "m" + item + ">" + slot};
        return jobs[below(3)];
    }

    // ---- what is told

    private void ask() {
        int item = about(m.count(9));
        int drive = about(m.count(10));
        int slot = about(24);
        int job = about(m.jobs());
        int what = about(8);
        switch (below(14)) {
            case 0: due(x.item(item, what), m.item(item, what)); break;
            case 1: due(x.homeOf(slot), m.homeOf(slot)); break;
            case 2: due(x.drive(drive, what), m.drive(drive, what)); break;
            case 3: due(x.dust(drive), m.dust(drive)); break;
            case 4: due(x.ceiling(drive), m.ceiling(drive)); break;
            case 5: due(x.meter(drive), m.meter(drive)); break;
            case 6: due(x.job(job, what + slot % 5), m.job(job, what + slot % 5)); break;
            case 7: due(x.order(slot), m.order(slot)); break;
            case 8: due(x.next(), m.next()); break;
            case 9: due(x.mayGo(slot), m.mayGo(slot)); break;
            case 10: due(x.fate(job, drive), m.fate(job, drive)); break;
            case 11: due(x.takes(drive, item), m.takes(drive, item)); break;
            case 12: due(x.event(what, drive), m.event(what, drive)); break;
            default: due(x.count(slot), m.count(slot)); break;
        }
    }

    private void due(int got, int want) {
        checks.due(x.lastCall(), got, want);
    }

    private void due(float got, float want) {
        checks.due(x.lastCall(), got, want);
    }

    private void compareAll() {
        compareRow(x.again());
        compareEvents(x.again());
        compareItems(x.again());
        compareDrives(x.again());
        for (int first = -1; first <= m.jobs(); first += 12) {
            compareJobs(x.again(), first, Math.min(first + 11, m.jobs()));
        }
        compareFates(x.again());
    }

    private void compareRow(Robot y) {
        for (int what = -1; what < 21; what++) {
            checks.due("count(" + what + ")", y.count(what), m.count(what));
        }
        for (int what = -1; what < 4; what++) {
            checks.due("meter(" + what + ")", y.meter(what), m.meter(what));
        }
        for (int slot = -1; slot < 25; slot++) {
            checks.due("homeOf(" + slot + ")", y.homeOf(slot), m.homeOf(slot));
            checks.due("mayGo(" + slot + ")", y.mayGo(slot), m.mayGo(slot));
        }
    }

    private void compareEvents(Robot y) {
        checks.due("next()", y.next(), m.next());
        for (int place = -1; place < 32; place++) {
            checks.due("order(" + place + ")", y.order(place), m.order(place));
        }
        for (int back = -1; back < 11; back++) {
            for (int what = -1; what < 5; what++) {
                checks.due("event(" + back + ", " + what + ")", y.event(back, what), m.event(back, what));
            }
        }
    }

    private void compareItems(Robot y) {
        for (int item = 0; item <= m.count(9); item++) {
            for (int what = 0; what < 8; what++) {
                checks.due("item(" + item + ", " + what + ")", y.item(item, what), m.item(item, what));
            }
            for (int sort = 0; sort < 3; sort++) {
                checks.due("takes(" + sort + ", " + item + ")", y.takes(sort, item), m.takes(sort, item));
            }
        }
    }

    private void compareDrives(Robot y) {
        for (int drive = -1; drive < 5; drive++) {
            checks.due("dust(" + drive + ")", y.dust(drive), m.dust(drive));
            checks.due("ceiling(" + drive + ")", y.ceiling(drive), m.ceiling(drive));
            for (int what = -1; what < 7; what++) {
                checks.due("drive(" + drive + ", " + what + ")", y.drive(drive, what), m.drive(drive, what));
            }
        }
    }

    private void compareJobs(Robot y, int first, int last) {
        for (int job = first; job <= last; job++) {
            for (int what = -1; what < 13; what++) {
                checks.due("job(" + job + ", " + what + ")", y.job(job, what), m.job(job, what));
            }
        }
    }

    private void compareFates(Robot y) {
        for (int turn = 0; turn < 3; turn++) {
            int job = turn == 0 ? m.order(0) : turn == 1 ? m.count(3) : about(m.jobs());
            for (int what = -1; what < 4; what++) {
                checks.due("fate(" + job + ", " + what + ")", y.fate(job, what), m.fate(job, what));
            }
        }
    }
}
