/** A robot that serves tapes along a row of slots, and may only move what its dust meter allows. */
public final class DustRobot {
    public static final int UNKNOWN = -1;
    public static final int BAD_VALUE = -2;
    public static final int FULL = -3;
    public static final int NOT_POSSIBLE = -4;
    public static final int NONE = -5;

    private static final int SLOTS = 24;
    private static final int MOST_DRIVES = 4;
    private static final int MOST_ITEMS = 18;
    private static final int MOST_JOBS = 30;
    private static final int MOST_USES = 50;
    private static final int MOST_EVENTS = 10;
    private static final int MOST_STATES = 4;
    private static final int MOST_SIGNS = 60;
    private static final int MOST_TICKS = 100;
    private static final int LAST_TICK = 10000;
    private static final int FATE_TICKS = 400;
    private static final int STILL_TICKS = 100;
    private static final int KINDS = 3;
    private static final int LOST_READS_OF_A_JOB = 3;

    private static final int READING = 0;
    private static final int CLEANING = 1;
    private static final int MOVING = 2;

    private static final int WAITING = 0;
    private static final int UNDER_WAY = 1;
    private static final int DONE = 2;
    private static final int LOST = 3;
    private static final int WITHDRAWN = 4;

    private static final int AT_HOME = 0;
    private static final int IN_HAND = 1;
    private static final int IN_DRIVE = 2;

    private static final int REASON_DUST = 1;
    private static final int REASON_READS = 2;

    private static final int EVENT_BEGUN = 0;
    private static final int EVENT_READ = 1;
    private static final int EVENT_READ_LOST = 2;
    private static final int EVENT_CLEANED = 3;
    private static final int EVENT_PLEA = 4;
    private static final int EVENT_DONE = 5;
    private static final int EVENT_LOST = 6;

    // Floats from 0.0f on stand in the order of their bits, so bounds of floats are tested as bounds of bits.
    private static final int BITS_OF_ZERO = 0;
    private static final int BITS_OF_ONE = 0x3F800000;
    private static final int BITS_OF_500 = 0x43FA0000;
    private static final int BITS_OF_1000 = 0x447A0000;

    private final State now;
    private final History history;
    private final State snapshot;
    private boolean hasSnapshot;
    // Forecasts are run on this state, which is made once and used again.
    private final State trial;
    private final Text text;

    public DustRobot() {
        now = new State();
        history = new History();
        snapshot = new State();
        hasSnapshot = false;
        trial = new State();
        text = new Text();
    }

    // ---- what there is

    public int addDrive(int slot) {
        if (!Store.hasSlot(slot)) {
            return UNKNOWN;
        }
        if (now.store.driveBeside(slot) != NONE) {
            return NOT_POSSIBLE;
        }
        Drive fresh = now.store.freeDrive();
        if (fresh == null) {
            return FULL;
        }
        history.record(now);
        fresh.begin(slot);
        return now.store.driveCount++;
    }

    public int addTape(int slot, int frailty) {
        if (!Store.hasSlot(slot)) {
            return UNKNOWN;
        }
        if (!isFrom(frailty, BITS_OF_ZERO, BITS_OF_ONE)) {
            return BAD_VALUE;
        }
        if (now.isTakenOrAimedAt(slot)) {
            return NOT_POSSIBLE;
        }
        Item fresh = now.store.freeItem();
        if (fresh == null) {
            return FULL;
        }
        history.record(now);
        fresh.beginTape(slot, frailty, floatOf(frailty));
        return now.store.itemCount++;
    }

    public int addCleaner(int slot, int uses) {
        if (!Store.hasSlot(slot)) {
            return UNKNOWN;
        }
        if (!isFrom(uses, 1, MOST_USES)) {
            return BAD_VALUE;
        }
        if (now.isTakenOrAimedAt(slot)) {
            return NOT_POSSIBLE;
        }
        Item fresh = now.store.freeItem();
        if (fresh == null) {
            return FULL;
        }
        history.record(now);
        fresh.beginCleaner(slot, uses);
        return now.store.itemCount++;
    }

    public int refill(int item, int uses) {
        Item cleaner = now.store.itemAt(item);
        if (cleaner == null) {
            return UNKNOWN;
        }
        if (!isFrom(uses, 1, MOST_USES)) {
            return BAD_VALUE;
        }
        if (!cleaner.isCleaner) {
            return NOT_POSSIBLE;
        }
        int before = cleaner.amount;
        if (before == uses) {
            return NONE;
        }
        history.record(now);
        cleaner.amount = uses;
        return before;
    }

    public int setLimit(int bits) {
        if (!isFrom(bits, BITS_OF_ONE, BITS_OF_1000)) {
            return BAD_VALUE;
        }
        float limit = floatOf(bits);
        if (limit == now.limit) {
            return NONE;
        }
        history.record(now);
        now.limit = limit;
        return 1;
    }

    public int setCeiling(int drive, int bits) {
        Drive found = now.store.driveAt(drive);
        if (found == null) {
            return UNKNOWN;
        }
        if (!isFrom(bits, BITS_OF_ONE, BITS_OF_500)) {
            return BAD_VALUE;
        }
        float ceiling = floatOf(bits);
        if (ceiling == found.ceiling) {
            return NONE;
        }
        history.record(now);
        found.ceiling = ceiling;
        return 1;
    }

    public int setOrder(int first, int second) {
        if (!isFrom(first, 0, KINDS - 1) || !isFrom(second, 0, KINDS - 1) || first == second) {
            return BAD_VALUE;
        }
        if (now.queue.rankOf(first) == 0 && now.queue.rankOf(second) == 1) {
            return NONE;
        }
        history.record(now);
        return now.queue.rankKinds(first, second);
    }

    // ---- jobs

    public int read(int item) {
        return giveJob(READING, item, NONE);
    }

    public int clean(int drive) {
        return giveJob(CLEANING, drive, NONE);
    }

    public int move(int item, int slot) {
        return giveJob(MOVING, item, slot);
    }

    public int putOff(int job, int tick) {
        Job found = now.queue.jobAt(job);
        if (found == null) {
            return UNKNOWN;
        }
        if (!isFrom(tick, 0, LAST_TICK - 1)) {
            return BAD_VALUE;
        }
        if (found.state != WAITING) {
            return NOT_POSSIBLE;
        }
        int before = found.until;
        if (before == tick) {
            return NONE;
        }
        history.record(now);
        found.until = tick;
        return before;
    }

    public int withdraw(int job) {
        Job found = now.queue.jobAt(job);
        if (found == null) {
            return UNKNOWN;
        }
        if (found.state != WAITING) {
            return NOT_POSSIBLE;
        }
        history.record(now);
        found.state = WITHDRAWN;
        found.ended = now.tick;
        return now.queue.jobsInState(WAITING);
    }

    public int tick(int ticks) {
        if (!isFrom(ticks, 1, MOST_TICKS)) {
            return BAD_VALUE;
        }
        if (now.tick + ticks > LAST_TICK) {
            return NOT_POSSIBLE;
        }
        history.record(now);
        int done = 0;
        for (int passed = 0; passed < ticks; passed++) {
            done += now.passOneTick();
        }
        return done;
    }

    // ---- texts

    public int type(char character) {
        return text.append(character) ? text.length : FULL;
    }

    public int clearText() {
        int before = text.length;
        text.length = 0;
        return before;
    }

    public int readJobs() {
        if (!text.parse()) {
            return -100 - text.at;
        }
        for (int i = 0; i < text.jobCount; i++) {
            int fault = now.faultOfJob(text.kinds[i], text.targets[i], text.slots[i]);
            if (fault != NONE) {
                return fault;
            }
        }
        if (now.queue.jobCount + text.jobCount > MOST_JOBS) {
            return FULL;
        }
        history.record(now);
        for (int i = 0; i < text.jobCount; i++) {
            now.queue.enter(text.kinds[i], text.targets[i], text.slots[i]);
        }
        return text.jobCount;
    }

    // ---- history

    public int undo() {
        return history.giveBack(now) ? history.held : NONE;
    }

    public int keep() {
        snapshot.copyFrom(now);
        hasSnapshot = true;
        return now.tick;
    }

    public int restore() {
        if (!hasSnapshot) {
            return NONE;
        }
        history.record(now);
        now.copyFrom(snapshot);
        return now.tick;
    }

    // ---- what is told

    public int item(int item, int what) {
        Item found = now.store.itemAt(item);
        if (found == null) {
            return UNKNOWN;
        }
        if (!isFrom(what, 0, 7)) {
            return BAD_VALUE;
        }
        return what == 7 ? now.queue.jobsWith(item) : found.tell(what);
    }

    public int homeOf(int slot) {
        return Store.hasSlot(slot) ? now.store.itemWithHome(slot) : UNKNOWN;
    }

    public int drive(int drive, int what) {
        Drive found = now.store.driveAt(drive);
        if (found == null) {
            return UNKNOWN;
        }
        return isFrom(what, 0, 5) ? found.tell(what) : BAD_VALUE;
    }

    public float dust(int drive) {
        Drive found = now.store.driveAt(drive);
        return found == null ? noNumber() : found.dust;
    }

    public float ceiling(int drive) {
        Drive found = now.store.driveAt(drive);
        return found == null ? noNumber() : found.ceiling;
    }

    public float meter(int what) {
        switch (what) {
            case 0: return now.meter;
            case 1: return now.limit;
            case 2: return now.store.dustOfAll();
            default: return noNumber();
        }
    }

    public int job(int job, int what) {
        Job found = now.queue.jobAt(job);
        if (found == null) {
            return UNKNOWN;
        }
        return isFrom(what, 0, 11) ? found.tell(what) : BAD_VALUE;
    }

    public int order(int place) {
        return place < 0 ? BAD_VALUE : now.waitingJobAt(place);
    }

    public int next() {
        return now.jobToBegin();
    }

    public int mayGo(int slot) {
        return Store.hasSlot(slot) ? now.ticksUntilAllowed(slot) : UNKNOWN;
    }

    public int fate(int job, int what) {
        trial.copyFrom(now);
        Job tried = trial.queue.jobAt(job);
        if (tried == null) {
            return UNKNOWN;
        }
        if (!isFrom(what, 0, 2)) {
            return BAD_VALUE;
        }
        if (!tried.isOpen()) {
            return NOT_POSSIBLE;
        }
        for (int passed = 1; passed <= FATE_TICKS; passed++) {
            trial.passOneTick();
            if (!tried.isOpen()) {
                return what == 0 ? tried.state : what == 1 ? passed : tried.pleas;
            }
        }
        return NONE;
    }

    public int takes(int sort, int item) {
        Item found = now.store.itemAt(item);
        if (found == null) {
            return UNKNOWN;
        }
        if (!isFrom(sort, 0, 1)) {
            return BAD_VALUE;
        }
        return found.isCleaner == (sort == 1) ? 1 : 0;
    }

    public int event(int back, int what) {
        if (back < 0 || !isFrom(what, 0, 3)) {
            return BAD_VALUE;
        }
        return now.log.tell(back, what);
    }

    public int count(int what) {
        switch (what) {
            case 0: return now.tick;
            case 1: return now.place;
            case 2: return now.hand;
            case 3: return now.ownJob;
            case 4: case 5: case 6: case 7: case 8: return now.queue.jobsInState(what - 4);
            case 9: return now.store.itemCount;
            case 10: return now.store.driveCount;
            case 11: case 12: case 13: return now.store.sumOverDrives(what - 10);
            case 14: return now.pleas;
            case 15: return now.slotsGone;
            case 16: return now.idleTicks;
            case 17: return now.store.usesOfAll();
            case 18: return history.held;
            case 19: return text.length;
            default: return BAD_VALUE;
        }
    }

    private int giveJob(int kind, int target, int slot) {
        int fault = now.faultOfJob(kind, target, slot);
        if (fault != NONE) {
            return fault;
        }
        if (now.queue.jobCount >= MOST_JOBS) {
            return FULL;
        }
        history.record(now);
        return now.queue.enter(kind, target, slot);
    }

    private static boolean isFrom(int value, int least, int most) {
        return value >= least && value <= most;
    }

    // The bits are those of a float from 0.0f to 1000.0f; halving its whole mantissa down is exact at each step.
    private static float floatOf(int bits) {
        int exponent = bits >>> 23;
        int mantissa = bits & 0x7FFFFF;
        float value = (float) (exponent == 0 ? mantissa : mantissa | 0x800000);
        int halvings = exponent == 0 ? 149 : 150 - exponent;
        for (int i = 0; i < halvings; i++) {
            value = value * 0.5f;
        }
        return value;
    }

    // A constant in the document's own words: the compiler folds it, so no division is done.
    private static float noNumber() {
        return 0.0f / 0.0f;
    }

    /** A tape or a cleaner. */
    static final class Item {
        boolean isCleaner;
        int home;
        int where;
        int drive;
        /** The reads of a tape, or the uses of a cleaner. */
        int amount;
        int frailtyBits;
        float frailty;
        int lostReads;

        void beginTape(int slot, int bits, float value) {
            begin(slot);
            isCleaner = false;
            amount = 0;
            frailtyBits = bits;
            frailty = value;
        }

        void beginCleaner(int slot, int uses) {
            begin(slot);
            isCleaner = true;
            amount = uses;
            frailtyBits = 0;
            frailty = 0.0f;
        }

        private void begin(int slot) {
            home = slot;
            where = AT_HOME;
            drive = NONE;
            lostReads = 0;
        }

        void copyFrom(Item other) {
            isCleaner = other.isCleaner;
            home = other.home;
            where = other.where;
            drive = other.drive;
            amount = other.amount;
            frailtyBits = other.frailtyBits;
            frailty = other.frailty;
            lostReads = other.lostReads;
        }

        int tell(int what) {
            switch (what) {
                case 0: return isCleaner ? 1 : 0;
                case 1: return home;
                case 2: return where;
                case 3: return drive;
                case 4: return amount;
                case 5: return frailtyBits;
                default: return lostReads;
            }
        }
    }

    /** A drive beside a slot. */
    static final class Drive {
        int slot;
        float dust;
        float ceiling;
        int reads;
        int lostReads;
        int cleanings;
        int loaded;

        void begin(int beside) {
            slot = beside;
            dust = 0.0f;
            ceiling = 8.0f;
            reads = 0;
            lostReads = 0;
            cleanings = 0;
            loaded = NONE;
        }

        void copyFrom(Drive other) {
            slot = other.slot;
            dust = other.dust;
            ceiling = other.ceiling;
            reads = other.reads;
            lostReads = other.lostReads;
            cleanings = other.cleanings;
            loaded = other.loaded;
        }

        boolean isTooDusty() {
            return dust > ceiling;
        }

        /** Reads the tape and tells whether the read is a good one. */
        boolean readTape(Item tape) {
            boolean good = !(dust * tape.frailty > 3.0f);
            dust = dust + (1.0f + (float) tape.amount * 0.125f);
            tape.amount++;
            reads++;
            if (!good) {
                lostReads++;
                tape.lostReads++;
            }
            return good;
        }

        void cleanWith(Item cleaner) {
            dust = dust * 0.125f;
            cleaner.amount--;
            cleanings++;
        }

        int tell(int what) {
            switch (what) {
                case 0: return slot;
                case 1: return reads;
                case 2: return lostReads;
                case 3: return cleanings;
                case 4: return loaded;
                default: return isTooDusty() ? 1 : 0;
            }
        }
    }

    /** A job of one of the three kinds. */
    static final class Job {
        int kind;
        /** The item, or the drive that is to be cleaned. */
        int target;
        int slot;
        int state;
        int began;
        int ended;
        int step;
        int drive;
        int cleaner;
        int reason;
        int pleas;
        int until;
        int lostReads;

        void enter(int newKind, int newTarget, int newSlot) {
            kind = newKind;
            target = newTarget;
            slot = newSlot;
            state = WAITING;
            began = NONE;
            ended = NONE;
            step = 0;
            drive = NONE;
            cleaner = NONE;
            reason = NONE;
            pleas = 0;
            until = 0;
            lostReads = 0;
        }

        void copyFrom(Job other) {
            kind = other.kind;
            target = other.target;
            slot = other.slot;
            state = other.state;
            began = other.began;
            ended = other.ended;
            step = other.step;
            drive = other.drive;
            cleaner = other.cleaner;
            reason = other.reason;
            pleas = other.pleas;
            until = other.until;
            lostReads = other.lostReads;
        }

        /** Whether it waits or is under way. */
        boolean isOpen() {
            return state == WAITING || state == UNDER_WAY;
        }

        /** The item that the robot carries for this job; NONE for a cleaning that has not begun. */
        int carriedItem() {
            return kind == CLEANING ? cleaner : target;
        }

        int steps() {
            return kind == MOVING ? 4 : 8;
        }

        int tell(int what) {
            switch (what) {
                case 0: return kind;
                case 1: return target;
                case 2: return slot;
                case 3: return state;
                case 4: return began;
                case 5: return ended;
                case 6: return state == UNDER_WAY ? step : NONE;
                case 7: return drive;
                case 8: return cleaner;
                case 9: return reason;
                case 10: return pleas;
                default: return until;
            }
        }
    }

    /** All items and all drives. */
    static final class Store {
        final Item[] items;
        int itemCount;
        final Drive[] drives;
        int driveCount;

        Store() {
            items = new Item[MOST_ITEMS];
            for (int i = 0; i < items.length; i++) {
                items[i] = new Item();
            }
            itemCount = 0;
            drives = new Drive[MOST_DRIVES];
            for (int i = 0; i < drives.length; i++) {
                drives[i] = new Drive();
            }
            driveCount = 0;
        }

        void copyFrom(Store other) {
            itemCount = other.itemCount;
            for (int i = 0; i < itemCount; i++) {
                items[i].copyFrom(other.items[i]);
            }
            driveCount = other.driveCount;
            for (int i = 0; i < driveCount; i++) {
                drives[i].copyFrom(other.drives[i]);
            }
        }

        static boolean hasSlot(int slot) {
            return slot >= 0 && slot < SLOTS;
        }

        /** The item of this number, or null. */
        Item itemAt(int number) {
            return number >= 0 && number < itemCount ? items[number] : null;
        }

        /** The drive of this number, or null. */
        Drive driveAt(int number) {
            return number >= 0 && number < driveCount ? drives[number] : null;
        }

        /** The item that is the next to be added, or null if there is no room. */
        Item freeItem() {
            return itemCount < items.length ? items[itemCount] : null;
        }

        /** The drive that is the next to be added, or null if there is no room. */
        Drive freeDrive() {
            return driveCount < drives.length ? drives[driveCount] : null;
        }

        int itemWithHome(int slot) {
            for (int i = 0; i < itemCount; i++) {
                if (items[i].home == slot) {
                    return i;
                }
            }
            return NONE;
        }

        int driveBeside(int slot) {
            for (int i = 0; i < driveCount; i++) {
                if (drives[i].slot == slot) {
                    return i;
                }
            }
            return NONE;
        }

        int driveToRead() {
            int best = NONE;
            float least = 0.0f;
            for (int i = 0; i < driveCount; i++) {
                Drive drive = drives[i];
                if (!drive.isTooDusty() && (best == NONE || drive.dust < least)) {
                    best = i;
                    least = drive.dust;
                }
            }
            return best;
        }

        int cleanerNearest(int slot) {
            int best = NONE;
            int least = SLOTS;
            for (int i = 0; i < itemCount; i++) {
                Item item = items[i];
                int distance = Math.abs(item.home - slot);
                if (item.isCleaner && item.amount > 0 && distance < least) {
                    best = i;
                    least = distance;
                }
            }
            return best;
        }

        float dustOfAll() {
            float sum = 0.0f;
            for (int i = 0; i < driveCount; i++) {
                sum = sum + drives[i].dust;
            }
            return sum;
        }

        /** The sum of what each drive tells: 1 for reads, 2 for lost ones, 3 for cleanings. */
        int sumOverDrives(int what) {
            int sum = 0;
            for (int i = 0; i < driveCount; i++) {
                sum += drives[i].tell(what);
            }
            return sum;
        }

        int usesOfAll() {
            int sum = 0;
            for (int i = 0; i < itemCount; i++) {
                sum += items[i].isCleaner ? items[i].amount : 0;
            }
            return sum;
        }
    }

    /** All jobs, and the order of their kinds. */
    static final class Queue {
        final Job[] jobs;
        int jobCount;
        private int firstKind;
        private int secondKind;

        Queue() {
            jobs = new Job[MOST_JOBS];
            for (int i = 0; i < jobs.length; i++) {
                jobs[i] = new Job();
            }
            jobCount = 0;
            firstKind = READING;
            secondKind = CLEANING;
        }

        void copyFrom(Queue other) {
            jobCount = other.jobCount;
            for (int i = 0; i < jobCount; i++) {
                jobs[i].copyFrom(other.jobs[i]);
            }
            firstKind = other.firstKind;
            secondKind = other.secondKind;
        }

        /** The job of this number, or null. */
        Job jobAt(int number) {
            return number >= 0 && number < jobCount ? jobs[number] : null;
        }

        int enter(int kind, int target, int slot) {
            if (jobCount >= jobs.length) {
                return FULL;
            }
            jobs[jobCount].enter(kind, target, slot);
            return jobCount++;
        }

        /** Returns the kind that is the last one then. */
        int rankKinds(int first, int second) {
            firstKind = first;
            secondKind = second;
            return READING + CLEANING + MOVING - first - second;
        }

        int rankOf(int kind) {
            return kind == firstKind ? 0 : kind == secondKind ? 1 : 2;
        }

        int jobsInState(int state) {
            int found = 0;
            for (int i = 0; i < jobCount; i++) {
                found += jobs[i].state == state ? 1 : 0;
            }
            return found;
        }

        int jobsWith(int item) {
            int found = 0;
            for (int i = 0; i < jobCount; i++) {
                Job job = jobs[i];
                found += job.isOpen() && job.carriedItem() == item ? 1 : 0;
            }
            return found;
        }
    }

    /** The latest events, in rows that are written round and round. */
    static final class Log {
        private final int[] kinds;
        private final int[] jobs;
        private final int[] drives;
        private final int[] ticks;
        private int held;
        private int newest;

        Log() {
            kinds = new int[MOST_EVENTS];
            jobs = new int[MOST_EVENTS];
            drives = new int[MOST_EVENTS];
            ticks = new int[MOST_EVENTS];
            held = 0;
            newest = MOST_EVENTS - 1;
        }

        void copyFrom(Log other) {
            System.arraycopy(other.kinds, 0, kinds, 0, MOST_EVENTS);
            System.arraycopy(other.jobs, 0, jobs, 0, MOST_EVENTS);
            System.arraycopy(other.drives, 0, drives, 0, MOST_EVENTS);
            System.arraycopy(other.ticks, 0, ticks, 0, MOST_EVENTS);
            held = other.held;
            newest = other.newest;
        }

        void add(int kind, int job, int drive, int tick) {
            newest = newest + 1 < MOST_EVENTS ? newest + 1 : 0;
            kinds[newest] = kind;
            jobs[newest] = job;
            drives[newest] = drive;
            ticks[newest] = tick;
            held = Math.min(held + 1, MOST_EVENTS);
        }

        int tell(int back, int what) {
            if (back < 0 || back >= held) {
                return NONE;
            }
            int index = newest >= back ? newest - back : newest - back + MOST_EVENTS;
            switch (what) {
                case 0: return kinds[index];
                case 1: return jobs[index];
                case 2: return drives[index];
                default: return ticks[index];
            }
        }
    }

    /** Everything that undo() and restore() bring back, and what the robot does in a tick. */
    static final class State {
        final Store store;
        final Queue queue;
        final Log log;
        float meter;
        float limit;
        int tick;
        int place;
        int hand;
        int ownJob;
        int pleas;
        int slotsGone;
        int idleTicks;

        State() {
            store = new Store();
            queue = new Queue();
            log = new Log();
            meter = 0.0f;
            limit = 20.0f;
            tick = 0;
            place = 0;
            hand = NONE;
            ownJob = NONE;
            pleas = 0;
            slotsGone = 0;
            idleTicks = 0;
        }

        void copyFrom(State other) {
            store.copyFrom(other.store);
            queue.copyFrom(other.queue);
            log.copyFrom(other.log);
            meter = other.meter;
            limit = other.limit;
            tick = other.tick;
            place = other.place;
            hand = other.hand;
            ownJob = other.ownJob;
            pleas = other.pleas;
            slotsGone = other.slotsGone;
            idleTicks = other.idleTicks;
        }

        boolean isTakenOrAimedAt(int slot) {
            Job job = queue.jobAt(ownJob);
            boolean aimedAt = job != null && job.kind == MOVING && job.slot == slot;
            return aimedAt || store.itemWithHome(slot) != NONE;
        }

        /** UNKNOWN or NOT_POSSIBLE if such a job may not be given; NONE if it may. */
        int faultOfJob(int kind, int target, int slot) {
            if (kind == CLEANING) {
                return store.driveAt(target) == null ? UNKNOWN : NONE;
            }
            Item item = store.itemAt(target);
            if (item == null || kind == MOVING && !Store.hasSlot(slot)) {
                return UNKNOWN;
            }
            return kind == READING && item.isCleaner ? NOT_POSSIBLE : NONE;
        }

        int waitingJobAt(int wanted) {
            int before = 0;
            for (int group = 0; group <= KINDS; group++) {
                for (int i = 0; i < queue.jobCount; i++) {
                    Job job = queue.jobs[i];
                    if (job.state == WAITING && groupOf(job) == group) {
                        if (before == wanted) {
                            return i;
                        }
                        before++;
                    }
                }
            }
            return NONE;
        }

        int jobToBegin() {
            int best = NONE;
            int bestGroup = KINDS + 1;
            for (int i = 0; i < queue.jobCount; i++) {
                Job job = queue.jobs[i];
                if (job.state == WAITING && job.until <= tick) {
                    int group = groupOf(job);
                    if (group < bestGroup && canBegin(job)) {
                        best = i;
                        bestGroup = group;
                    }
                }
            }
            return best;
        }

        // The cleanings of drives that are too dusty stand ahead of all kinds.
        private int groupOf(Job job) {
            Drive drive = job.kind == CLEANING ? store.driveAt(job.target) : null;
            return drive != null && drive.isTooDusty() ? 0 : 1 + queue.rankOf(job.kind);
        }

        private boolean canBegin(Job job) {
            switch (job.kind) {
                case READING:
                    return store.driveToRead() != NONE;
                case CLEANING:
                    return store.cleanerNearest(place) != NONE;
                default:
                    int owner = store.itemWithHome(job.slot);
                    return owner == NONE || owner == job.target;
            }
        }

        int ticksUntilAllowed(int slot) {
            float cost = costTo(slot);
            float later = meter;
            for (int ticks = 0; ticks <= STILL_TICKS; ticks++) {
                if (isAllowed(later, cost)) {
                    return ticks;
                }
                later = later * 0.75f;
            }
            return NONE;
        }

        // Only to go 0 slots costs nothing, and that is allowed above the limit too.
        private boolean isAllowed(float dust, float cost) {
            return cost == 0.0f || dust + cost <= limit;
        }

        private float costTo(int slot) {
            Item held = store.itemAt(hand);
            float load = held == null ? 0.5f : held.isCleaner ? 1.5f : 1.0f;
            return (float) Math.abs(slot - place) * load;
        }

        /** Returns how many jobs are done in this tick. */
        int passOneTick() {
            if (ownJob == NONE) {
                beginJob();
            }
            int done = 0;
            Job job = queue.jobAt(ownJob);
            if (job == null) {
                idleTicks++;
            } else if (doStep(job)) {
                done = goOn(job);
            }
            meter = meter * 0.75f;
            tick++;
            return done;
        }

        private void beginJob() {
            int number = jobToBegin();
            Job job = queue.jobAt(number);
            if (job == null) {
                return;
            }
            job.state = UNDER_WAY;
            job.began = tick;
            if (job.kind == READING) {
                job.drive = store.driveToRead();
            } else if (job.kind == CLEANING) {
                job.drive = job.target;
                job.cleaner = store.cleanerNearest(place);
            }
            ownJob = number;
            log.add(EVENT_BEGUN, number, NONE, tick);
        }

        /** Does the job's step, as each method below that does one; false if the step comes again. */
        private boolean doStep(Job job) {
            int number = job.carriedItem();
            Item item = store.itemAt(number);
            if (item == null) {
                return false;
            }
            if (job.kind == MOVING) {
                return doMoveStep(job, item, number);
            }
            Drive drive = store.driveAt(job.drive);
            return drive != null && doDriveStep(job, item, drive);
        }

        private boolean doMoveStep(Job job, Item item, int number) {
            switch (job.step) {
                case 0: return goTo(job, item.home);
                case 1: return takeInHand(item, number);
                case 2: return goTo(job, job.slot);
                default:
                    item.home = job.slot;
                    return putHome(item);
            }
        }

        private boolean doDriveStep(Job job, Item item, Drive drive) {
            switch (job.step) {
                case 0: return goTo(job, item.home);
                case 1: return takeInHand(item, job.carriedItem());
                case 2: return goTo(job, drive.slot);
                case 3: return loadDrive(job, item, drive);
                case 4: return job.kind == READING ? readInDrive(job, item, drive) : cleanDrive(job, item, drive);
                case 5: return unloadDrive(job, item, drive);
                case 6: return goTo(job, item.home);
                default: return putHome(item);
            }
        }

        private boolean goTo(Job job, int slot) {
            float cost = costTo(slot);
            if (!isAllowed(meter, cost)) {
                job.pleas++;
                pleas++;
                log.add(EVENT_PLEA, ownJob, NONE, tick);
                return false;
            }
            meter = meter + cost;
            slotsGone += Math.abs(slot - place);
            place = slot;
            return true;
        }

        private boolean takeInHand(Item item, int number) {
            item.where = IN_HAND;
            item.drive = NONE;
            hand = number;
            return true;
        }

        private boolean putHome(Item item) {
            item.where = AT_HOME;
            hand = NONE;
            return true;
        }

        private boolean loadDrive(Job job, Item item, Drive drive) {
            item.where = IN_DRIVE;
            item.drive = job.drive;
            drive.loaded = hand;
            hand = NONE;
            return true;
        }

        private boolean unloadDrive(Job job, Item item, Drive drive) {
            drive.loaded = NONE;
            return takeInHand(item, job.carriedItem());
        }

        private boolean readInDrive(Job job, Item tape, Drive drive) {
            if (drive.isTooDusty()) {
                job.reason = REASON_DUST;
                return true;
            }
            if (drive.readTape(tape)) {
                log.add(EVENT_READ, ownJob, job.drive, tick);
                return true;
            }
            log.add(EVENT_READ_LOST, ownJob, job.drive, tick);
            job.lostReads++;
            if (job.lostReads < LOST_READS_OF_A_JOB) {
                return false;
            }
            job.reason = REASON_READS;
            return true;
        }

        private boolean cleanDrive(Job job, Item cleaner, Drive drive) {
            drive.cleanWith(cleaner);
            log.add(EVENT_CLEANED, ownJob, job.drive, tick);
            return true;
        }

        /** Goes on to the next step, or ends the job behind its last one; returns 1 if it is done then. */
        private int goOn(Job job) {
            job.step++;
            if (job.step < job.steps()) {
                return 0;
            }
            boolean lost = job.reason != NONE;
            job.state = lost ? LOST : DONE;
            job.ended = tick;
            log.add(lost ? EVENT_LOST : EVENT_DONE, ownJob, NONE, tick);
            ownJob = NONE;
            return lost ? 0 : 1;
        }
    }

    /** The latest states, the oldest one first. */
    static final class History {
        private final State[] states;
        int held;

        History() {
            states = new State[MOST_STATES];
            for (int i = 0; i < states.length; i++) {
                states[i] = new State();
            }
            held = 0;
        }

        void record(State state) {
            if (held >= states.length) {
                dropOldest();
            }
            states[held].copyFrom(state);
            held++;
        }

        // The dropped state's object goes to the end, to be used again.
        private void dropOldest() {
            State oldest = states[0];
            for (int i = 1; i < states.length; i++) {
                states[i - 1] = states[i];
            }
            states[states.length - 1] = oldest;
            held = states.length - 1;
        }

        /** Removes the latest state and copies it there; false if there is none. */
        boolean giveBack(State there) {
            if (held <= 0) {
                return false;
            }
            held--;
            there.copyFrom(states[held]);
            return true;
        }
    }

    /** The typed text, and the jobs that were read from it the last time. */
    static final class Text {
        private static final int NO_SIGN = -1;

        private final char[] signs;
        int length;
        /** Where the reading stands; behind a failed one the place of the fault. */
        int at;
        final int[] kinds;
        final int[] targets;
        final int[] slots;
        int jobCount;

        Text() {
            signs = new char[MOST_SIGNS];
            length = 0;
            at = 0;
            kinds = new int[MOST_SIGNS];
            targets = new int[MOST_SIGNS];
            slots = new int[MOST_SIGNS];
            jobCount = 0;
        }

        boolean append(char sign) {
            if (length >= signs.length) {
                return false;
            }
            signs[length] = sign;
            length++;
            return true;
        }

        /** Reads the jobs of the text; false if it has a fault. */
        boolean parse() {
            at = 0;
            jobCount = 0;
            // Each job takes a sign at least, so the turns end ahead of this bound.
            for (int turn = 0; turn < MOST_SIGNS; turn++) {
                if (!parseJob()) {
                    return false;
                }
                if (at == length) {
                    return true;
                }
                if (sign() != ';') {
                    return false;
                }
                at++;
            }
            return false;
        }

        private boolean parseJob() {
            int kind = kindOf(sign());
            if (kind == NONE || jobCount >= kinds.length) {
                return false;
            }
            at++;
            int target = parseNumber();
            if (target == NONE) {
                return false;
            }
            int slot = NONE;
            if (kind == MOVING) {
                if (sign() != '>') {
                    return false;
                }
                at++;
                slot = parseNumber();
                if (slot == NONE) {
                    return false;
                }
            }
            kinds[jobCount] = kind;
            targets[jobCount] = target;
            slots[jobCount] = slot;
            jobCount++;
            return true;
        }

        private int parseNumber() {
            int first = digitOf(sign());
            if (first == NONE) {
                return NONE;
            }
            at++;
            int second = first == 0 ? NONE : digitOf(sign());
            if (second == NONE) {
                return first;
            }
            at++;
            return first * 10 + second;
        }

        private int sign() {
            return at >= 0 && at < length ? signs[at] : NO_SIGN;
        }

        private static int kindOf(int sign) {
            switch (sign) {
                case 'r': return READING;
                case 'c': return CLEANING;
                case 'm': return MOVING;
                default: return NONE;
            }
        }

        private static int digitOf(int sign) {
            return sign >= '0' && sign <= '9' ? sign - '0' : NONE;
        }
    }
}
