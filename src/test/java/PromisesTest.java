/** For each promise of the document: ordinary inputs, the edges that it names, and wrong inputs. */
final class PromisesTest extends RobotChecks {
    private static final int MINUS_ZERO = bits(-0.0f);
    private static final int INFINITY = bits(Float.POSITIVE_INFINITY);
    private static final int NO_NUMBER = bits(Float.NaN);

    public static void main(String[] args) {
        PromisesTest test = new PromisesTest();
        test.promises1To8();
        test.promises9To14();
        test.promises15To20();
        test.promises21To34();
        test.end();
    }

    private void promises1To8() {
        aNewObject();
        addDrive();
        addTape();
        aSlotIsAimedAt();
        addCleaner();
        refill();
        setLimit();
        setCeiling();
        setOrder();
    }

    private void promises9To14() {
        read();
        clean();
        move();
        putOff();
        withdraw();
        tick();
        stepsOfAJobToRead();
        stepsOfAJobToClean();
        stepsOfAJobToMove();
        pleas();
        lostReads();
        borderOfALostRead();
        tooMuchDust();
        whichDriveIsTaken();
        whichCleanerIsTaken();
        lastTick();
    }

    private void promises15To20() {
        type();
        clearText();
        readJobs();
        faultsOfTexts();
        undo();
        keepAndRestore();
        numbersAreGivenAgain();
        statesOfOtherThings();
        aKeptStateGoesOn();
        aStateAmidLostReads();
        aFullRobot();
    }

    private void promises21To34() {
        item();
        homeOf();
        drive();
        dustAndCeiling();
        meter();
        job();
        order();
        next();
        mayGo();
        fate();
        takes();
        event();
        count();
        countsOfSeveralDrives();
    }

    // ---- what there is

    private void aNewObject() {
        title("1 a new object");
        Robot x = new Robot();
        for (int what = 0; what < 20; what++) {
            due("count(" + what + ")", x.count(what), what == 2 || what == 3 ? NONE : 0);
        }
        due("meter(0)", x.meter(0), 0.0f);
        due("meter(1)", x.meter(1), 20.0f);
        due("meter(2)", x.meter(2), 0.0f);
        for (int slot = 0; slot < 24; slot++) {
            due("homeOf(" + slot + ")", x.homeOf(slot), NONE);
        }
        due("item(0, 0)", x.item(0, 0), UNKNOWN);
        due("drive(0, 0)", x.drive(0, 0), UNKNOWN);
        due("job(0, 0)", x.job(0, 0), UNKNOWN);
        due("event(0, 0)", x.event(0, 0), NONE);
        due("order(0)", x.order(0), NONE);
        due("next()", x.next(), NONE);
        due("readJobs()", x.readJobs(), -100);
        due("undo()", x.undo(), NONE);
        due("restore()", x.restore(), NONE);
        due("setOrder(0, 1)", x.setOrder(0, 1), NONE);
        due("setLimit(20)", x.setLimit(bits(20.0f)), NONE);
        due("tick(1)", x.tick(1), 0);
        due("count(16)", x.count(16), 1);
    }

    private void addDrive() {
        title("2 addDrive");
        Robot x = new Robot();
        dueNothing(x, UNKNOWN, r -> r.addDrive(-1));
        dueNothing(x, UNKNOWN, r -> r.addDrive(24));
        dueNothing(x, UNKNOWN, r -> r.addDrive(LEAST));
        dueNothing(x, UNKNOWN, r -> r.addDrive(MOST));
        dueAct(x, 0, r -> r.addDrive(23));
        dueNothing(x, NOT_POSSIBLE, r -> r.addDrive(23));
        dueAct(x, 1, r -> r.addDrive(0));
        due("addTape beside a drive", x.addTape(5, 0), 0);
        dueAct(x, 2, r -> r.addDrive(5));
        dueAct(x, 3, r -> r.addDrive(7));
        dueNothing(x, FULL, r -> r.addDrive(8));
        dueNothing(x, NOT_POSSIBLE, r -> r.addDrive(7));
        dueNothing(x, UNKNOWN, r -> r.addDrive(24));
        int[] begun = {23, 0, 0, 0, NONE, 0};
        for (int what = 0; what < begun.length; what++) {
            due("drive(0, " + what + ")", x.drive(0, what), begun[what]);
        }
        due("drive(2, 0)", x.drive(2, 0), 5);
        due("dust(0)", x.dust(0), 0.0f);
        due("ceiling(0)", x.ceiling(0), 8.0f);
        due("count(10)", x.count(10), 4);
    }

    private void addTape() {
        title("3 addTape");
        Robot x = new Robot();
        int half = bits(0.5f);
        int[] wrong = {MINUS_ZERO, bits(1.0f) + 1, bits(-0.5f), INFINITY, NO_NUMBER, -1, MOST, bits(2.0f), LEAST + 1,
            bits(Float.NEGATIVE_INFINITY)};
        for (int frailty : wrong) {
            dueNothing(x, BAD_VALUE, r -> r.addTape(0, frailty));
        }
        dueNothing(x, UNKNOWN, r -> r.addTape(-1, half));
        dueNothing(x, UNKNOWN, r -> r.addTape(24, NO_NUMBER));
        dueAct(x, 0, r -> r.addTape(0, 0));
        dueAct(x, 1, r -> r.addTape(23, bits(1.0f)));
        dueAct(x, 2, r -> r.addTape(1, 1));
        dueAct(x, 3, r -> r.addTape(2, half));
        due("item(3, 5)", x.item(3, 5), half);
        due("item(2, 5)", x.item(2, 5), 1);
        dueNothing(x, NOT_POSSIBLE, r -> r.addTape(2, half));
        dueNothing(x, BAD_VALUE, r -> r.addTape(2, MINUS_ZERO));
        int[] begun = {0, 2, 0, NONE, 0, half, 0, 0};
        for (int what = 0; what < begun.length; what++) {
            due("item(3, " + what + ")", x.item(3, what), begun[what]);
        }
        for (int item = 4; item < 18; item++) {
            due("addTape(" + item + ")", x.addTape(item, half), item);
        }
        dueNothing(x, FULL, r -> r.addTape(18, half));
        dueNothing(x, NOT_POSSIBLE, r -> r.addTape(17, half));
        dueNothing(x, BAD_VALUE, r -> r.addTape(18, -1));
        dueNothing(x, FULL, r -> r.addCleaner(18, 1));
        due("count(9)", x.count(9), 18);
    }

    private void aSlotIsAimedAt() {
        title("3, 4 a slot to which an item is moved just now");
        Robot x = new Robot();
        x.addTape(3, 0);
        x.move(0, 6);
        due("waiting: addTape(6)", x.addTape(6, 0), 1);
        x.undo();
        x.tick(1);
        for (int step = 1; step < 4; step++) {
            dueNothing(x, NOT_POSSIBLE, r -> r.addTape(6, 0));
            dueNothing(x, NOT_POSSIBLE, r -> r.addCleaner(6, 1));
            dueNothing(x, BAD_VALUE, r -> r.addCleaner(6, 0));
            dueNothing(x, NOT_POSSIBLE, r -> r.addTape(3, 0));
            dueNothing(x, NOT_POSSIBLE, r -> r.addCleaner(3, 1));
            x.tick(1);
        }
        dueNothing(x, NOT_POSSIBLE, r -> r.addTape(6, 0));
        dueAct(x, 1, r -> r.addTape(3, 0));
    }

    private void addCleaner() {
        title("4 addCleaner");
        Robot x = new Robot();
        dueNothing(x, UNKNOWN, r -> r.addCleaner(-1, 0));
        dueNothing(x, UNKNOWN, r -> r.addCleaner(24, 1));
        for (int uses : new int[] {0, 51, -1, LEAST, MOST}) {
            dueNothing(x, BAD_VALUE, r -> r.addCleaner(0, uses));
        }
        dueAct(x, 0, r -> r.addCleaner(0, 1));
        dueAct(x, 1, r -> r.addCleaner(23, 50));
        dueNothing(x, NOT_POSSIBLE, r -> r.addCleaner(23, 50));
        dueNothing(x, BAD_VALUE, r -> r.addCleaner(23, 51));
        dueNothing(x, NOT_POSSIBLE, r -> r.addTape(23, 0));
        int[] begun = {1, 23, 0, NONE, 50, 0, 0, 0};
        for (int what = 0; what < begun.length; what++) {
            due("item(1, " + what + ")", x.item(1, what), begun[what]);
        }
        for (int item = 2; item < 18; item++) {
            due("addCleaner(" + item + ")", x.addCleaner(item, item), item);
        }
        dueNothing(x, FULL, r -> r.addCleaner(18, 1));
        dueNothing(x, NOT_POSSIBLE, r -> r.addCleaner(17, 1));
        dueNothing(x, FULL, r -> r.addTape(18, 0));
        due("count(17)", x.count(17), 51 + 152);
    }

    private void refill() {
        title("5 refill");
        Robot x = new Robot();
        x.addTape(1, 0);
        x.addCleaner(2, 7);
        dueNothing(x, UNKNOWN, r -> r.refill(-1, 0));
        dueNothing(x, UNKNOWN, r -> r.refill(2, 1));
        dueNothing(x, BAD_VALUE, r -> r.refill(0, 0));
        dueNothing(x, NOT_POSSIBLE, r -> r.refill(0, 1));
        dueNothing(x, BAD_VALUE, r -> r.refill(1, 0));
        dueNothing(x, BAD_VALUE, r -> r.refill(1, 51));
        dueNothing(x, NONE, r -> r.refill(1, 7));
        dueAct(x, 7, r -> r.refill(1, 1));
        dueAct(x, 1, r -> r.refill(1, 50));
        due("item(1, 4)", x.item(1, 4), 50);
    }

    private void setLimit() {
        title("6 setLimit");
        Robot x = new Robot();
        int[] wrong = {bits(1.0f) - 1, bits(1000.0f) + 1, INFINITY, NO_NUMBER, 0, MINUS_ZERO, bits(-20.0f), -1, MOST};
        for (int limit : wrong) {
            dueNothing(x, BAD_VALUE, r -> r.setLimit(limit));
        }
        dueNothing(x, NONE, r -> r.setLimit(bits(20.0f)));
        float[] right = {1.0f, 1000.0f, Math.nextUp(1.0f), Math.nextDown(1000.0f), 3.3f, 511.99997f, 20.0f};
        for (float limit : right) {
            dueAct(x, 1, r -> r.setLimit(bits(limit)));
            due("meter(1)", x.meter(1), limit);
            dueNothing(x, NONE, r -> r.setLimit(bits(limit)));
        }
    }

    private void setCeiling() {
        title("7 setCeiling");
        Robot x = new Robot();
        x.addDrive(3);
        x.addDrive(4);
        dueNothing(x, UNKNOWN, r -> r.setCeiling(-1, 0));
        dueNothing(x, UNKNOWN, r -> r.setCeiling(2, bits(9.0f)));
        int[] wrong = {bits(1.0f) - 1, bits(500.0f) + 1, INFINITY, NO_NUMBER, 0, MINUS_ZERO, bits(-8.0f), -1, MOST};
        for (int ceiling : wrong) {
            dueNothing(x, BAD_VALUE, r -> r.setCeiling(0, ceiling));
        }
        dueNothing(x, NONE, r -> r.setCeiling(0, bits(8.0f)));
        for (float ceiling : new float[] {1.0f, 500.0f, Math.nextUp(1.0f), Math.nextDown(500.0f), 7.7f}) {
            dueAct(x, 1, r -> r.setCeiling(1, bits(ceiling)));
            due("ceiling(1)", x.ceiling(1), ceiling);
            dueNothing(x, NONE, r -> r.setCeiling(1, bits(ceiling)));
        }
        due("ceiling(0)", x.ceiling(0), 8.0f);
    }

    private void setOrder() {
        title("8 setOrder");
        Robot x = new Robot();
        int[][] wrong = {{-1, 0}, {0, -1}, {3, 0}, {0, 3}, {0, 0}, {1, 1}, {2, 2}, {LEAST, MOST}};
        for (int[] pair : wrong) {
            dueNothing(x, BAD_VALUE, r -> r.setOrder(pair[0], pair[1]));
        }
        int[][] right = {{0, 2, 1}, {1, 0, 2}, {1, 2, 0}, {2, 0, 1}, {2, 1, 0}, {0, 1, 2}};
        x.addDrive(0);
        x.addTape(1, 0);
        x.read(0);
        x.clean(0);
        x.move(0, 5);
        for (int[] kinds : right) {
            String call = "setOrder(" + kinds[0] + ", " + kinds[1] + ")";
            dueAct(x, kinds[2], r -> r.setOrder(kinds[0], kinds[1]));
            dueNothing(x, NONE, r -> r.setOrder(kinds[0], kinds[1]));
            for (int place = 0; place < 3; place++) {
                due(call + ", order(" + place + ")", x.order(place), kinds[place]);
            }
        }
    }

    // ---- jobs

    private void read() {
        title("9 read");
        Robot x = new Robot();
        x.addTape(3, 0);
        x.addCleaner(4, 1);
        dueNothing(x, UNKNOWN, r -> r.read(-1));
        dueNothing(x, UNKNOWN, r -> r.read(2));
        dueNothing(x, NOT_POSSIBLE, r -> r.read(1));
        for (int job = 0; job < 30; job++) {
            dueAct(x, job, r -> r.read(0));
        }
        dueNewJob(x, 29, 0, 0, NONE);
        dueNothing(x, FULL, r -> r.read(0));
        dueNothing(x, NOT_POSSIBLE, r -> r.read(1));
        dueNothing(x, UNKNOWN, r -> r.read(2));
        due("undo()", x.undo(), 3);
        due("the one that was FULL is not in the history: count(4)", x.count(4), 29);
        x.read(0);
        x.withdraw(7);
        dueNothing(x, FULL, r -> r.read(0));
    }

    private void clean() {
        title("10 clean");
        Robot x = new Robot();
        x.addDrive(3);
        dueNothing(x, UNKNOWN, r -> r.clean(-1));
        dueNothing(x, UNKNOWN, r -> r.clean(1));
        for (int job = 0; job < 30; job++) {
            dueAct(x, job, r -> r.clean(0));
        }
        dueNewJob(x, 3, 1, 0, NONE);
        dueNothing(x, FULL, r -> r.clean(0));
        dueNothing(x, UNKNOWN, r -> r.clean(1));
    }

    private void move() {
        title("11 move");
        Robot x = new Robot();
        x.addTape(3, 0);
        x.addCleaner(4, 1);
        dueNothing(x, UNKNOWN, r -> r.move(-1, 0));
        dueNothing(x, UNKNOWN, r -> r.move(2, 0));
        dueNothing(x, UNKNOWN, r -> r.move(0, -1));
        dueNothing(x, UNKNOWN, r -> r.move(0, 24));
        dueAct(x, 0, r -> r.move(1, 23));
        dueNewJob(x, 0, 2, 1, 23);
        dueAct(x, 1, r -> r.move(0, 0));
        dueAct(x, 2, r -> r.move(0, 4));
        for (int job = 3; job < 30; job++) {
            due("move(0, 3)", x.move(0, 3), job);
        }
        dueNothing(x, FULL, r -> r.move(0, 3));
        dueNothing(x, UNKNOWN, r -> r.move(0, 24));
        dueNothing(x, UNKNOWN, r -> r.move(2, 3));
    }

    private void dueNewJob(Robot x, int job, int kind, int target, int slot) {
        int[] begun = {kind, target, slot, 0, NONE, NONE, NONE, NONE, NONE, NONE, 0, 0};
        for (int what = 0; what < begun.length; what++) {
            due("job(" + job + ", " + what + ")", x.job(job, what), begun[what]);
        }
    }

    private void putOff() {
        title("12 putOff");
        Robot x = new Robot();
        x.addTape(3, 0);
        x.move(0, 4);
        x.move(0, 5);
        dueNothing(x, UNKNOWN, r -> r.putOff(-1, -1));
        dueNothing(x, UNKNOWN, r -> r.putOff(2, 5));
        dueNothing(x, BAD_VALUE, r -> r.putOff(0, -1));
        dueNothing(x, BAD_VALUE, r -> r.putOff(0, 10000));
        dueNothing(x, NONE, r -> r.putOff(0, 0));
        dueAct(x, 0, r -> r.putOff(0, 9999));
        dueNothing(x, NONE, r -> r.putOff(0, 9999));
        dueAct(x, 9999, r -> r.putOff(0, 3));
        dueAct(x, 0, r -> r.putOff(1, 2));
        due("job(0, 11)", x.job(0, 11), 3);
        x.tick(2);
        due("put off: count(3)", x.count(3), NONE);
        due("put off: count(16)", x.count(16), 2);
        x.tick(1);
        due("no longer put off: count(3)", x.count(3), 1);
        due("job(1, 4)", x.job(1, 4), 2);
        due("job(1, 11)", x.job(1, 11), 2);
        dueNothing(x, "under way: ", NOT_POSSIBLE, r -> r.putOff(1, 9));
        dueNothing(x, "under way: ", NOT_POSSIBLE, r -> r.putOff(1, 2));
        dueNothing(x, "under way: ", BAD_VALUE, r -> r.putOff(1, -1));
        dueAct(x, 3, r -> r.putOff(0, 0));
        x.tick(3);
        dueNothing(x, "done: ", NOT_POSSIBLE, r -> r.putOff(1, 9));
        x.withdraw(0);
        dueNothing(x, "withdrawn: ", NOT_POSSIBLE, r -> r.putOff(0, 9));
    }

    private void withdraw() {
        title("13 withdraw");
        Robot x = new Robot();
        x.addTape(3, 0);
        for (int job = 0; job < 4; job++) {
            x.move(0, 4 + job);
        }
        dueNothing(x, UNKNOWN, r -> r.withdraw(-1));
        dueNothing(x, UNKNOWN, r -> r.withdraw(4));
        x.tick(1);
        dueNothing(x, "under way: ", NOT_POSSIBLE, r -> r.withdraw(0));
        dueAct(x, 2, r -> r.withdraw(2));
        due("job(2, 3)", x.job(2, 3), 4);
        due("job(2, 4)", x.job(2, 4), NONE);
        due("job(2, 5)", x.job(2, 5), 1);
        dueNothing(x, "withdrawn: ", NOT_POSSIBLE, r -> r.withdraw(2));
        x.tick(3);
        dueNothing(x, "done: ", NOT_POSSIBLE, r -> r.withdraw(0));
        dueAct(x, 1, r -> r.withdraw(1));
        dueAct(x, 0, r -> r.withdraw(3));
        due("count(8)", x.count(8), 3);
        x.tick(5);
        due("homeOf(4)", x.homeOf(4), 0);
        due("job(3, 5)", x.job(3, 5), 4);
    }

    private void tick() {
        title("14 tick");
        Robot x = new Robot();
        x.addTape(3, 0);
        for (int ticks : new int[] {0, -1, 101, LEAST, MOST}) {
            dueNothing(x, BAD_VALUE, r -> r.tick(ticks));
        }
        x.move(0, 4);
        x.move(0, 5);
        x.move(0, 6);
        dueAct(x, 0, r -> r.tick(3));
        dueAct(x, 1, r -> r.tick(1));
        dueAct(x, 2, r -> r.tick(100));
        due("count(0)", x.count(0), 104);
        due("count(6)", x.count(6), 3);
        due("count(16)", x.count(16), 92);
        due("job(1, 4)", x.job(1, 4), 4);
        due("job(1, 5)", x.job(1, 5), 7);
        due("job(2, 4)", x.job(2, 4), 8);
    }

    private void stepsOfAJobToRead() {
        title("14 the steps of a job to read");
        Robot x = new Robot();
        x.addDrive(4);
        x.addTape(2, 0);
        x.read(0);
        // Behind each tick: the robot's slot, its hand, where the item is, its drive, what is in the drive, its reads.
        int[][] rows = {
            {2, NONE, 0, NONE, NONE, 0}, {2, 0, 1, NONE, NONE, 0}, {4, 0, 1, NONE, NONE, 0}, {4, NONE, 2, 0, 0, 0},
            {4, NONE, 2, 0, 0, 1}, {4, 0, 1, NONE, NONE, 1}, {2, 0, 1, NONE, NONE, 1}, {2, NONE, 0, NONE, NONE, 1},
        };
        float[] costs = {1.0f, 0.0f, 2.0f, 0.0f, 0.0f, 0.0f, 2.0f, 0.0f};
        float meter = 0.0f;
        for (int step = 0; step < rows.length; step++) {
            due("tick(1)", x.tick(1), step == 7 ? 1 : 0);
            dueCarried(x, rows[step]);
            due("job(0, 6)", x.job(0, 6), step == 7 ? NONE : step + 1);
            due("job(0, 7)", x.job(0, 7), 0);
            due("job(0, 3)", x.job(0, 3), step == 7 ? 2 : 1);
            meter = (meter + costs[step]) * 0.75f;
            due("meter(0)", x.meter(0), meter);
        }
        due("count(15)", x.count(15), 6);
        due("dust(0)", x.dust(0), 1.0f);
        dueEvent(x, 0, 5, 0, NONE, 7);
        dueEvent(x, 1, 1, 0, 0, 4);
        dueEvent(x, 2, 0, 0, NONE, 0);
        due("event(3, 0)", x.event(3, 0), NONE);
        due("count(3)", x.count(3), NONE);
    }

    private void stepsOfAJobToClean() {
        title("14 the steps of a job to clean");
        Robot x = new Robot();
        x.addDrive(4);
        x.addCleaner(2, 2);
        x.addTape(4, 0);
        x.read(1);
        x.tick(8);
        float meter = x.meter(0);
        x.clean(0);
        int[][] rows = {
            {2, NONE, 0, NONE, NONE, 2}, {2, 0, 1, NONE, NONE, 2}, {4, 0, 1, NONE, NONE, 2}, {4, NONE, 2, 0, 0, 2},
            {4, NONE, 2, 0, 0, 1}, {4, 0, 1, NONE, NONE, 1}, {2, 0, 1, NONE, NONE, 1}, {2, NONE, 0, NONE, NONE, 1},
        };
        float[] costs = {1.0f, 0.0f, 3.0f, 0.0f, 0.0f, 0.0f, 3.0f, 0.0f};
        for (int step = 0; step < rows.length; step++) {
            due("tick(1)", x.tick(1), step == 7 ? 1 : 0);
            dueCarried(x, rows[step]);
            due("job(1, 7)", x.job(1, 7), 0);
            due("job(1, 8)", x.job(1, 8), 0);
            meter = (meter + costs[step]) * 0.75f;
            due("meter(0)", x.meter(0), meter);
            due("dust(0)", x.dust(0), step < 4 ? 1.0f : 0.125f);
        }
        due("drive(0, 3)", x.drive(0, 3), 1);
        due("count(13)", x.count(13), 1);
        due("count(17)", x.count(17), 1);
        dueEvent(x, 0, 5, 1, NONE, 15);
        dueEvent(x, 1, 3, 1, 0, 12);
        dueEvent(x, 2, 0, 1, NONE, 8);
    }

    private void dueCarried(Robot x, int[] row) {
        due("count(1)", x.count(1), row[0]);
        due("count(2)", x.count(2), row[1]);
        due("item(0, 2)", x.item(0, 2), row[2]);
        due("item(0, 3)", x.item(0, 3), row[3]);
        due("drive(0, 4)", x.drive(0, 4), row[4]);
        due("item(0, 4)", x.item(0, 4), row[5]);
    }

    private void stepsOfAJobToMove() {
        title("14 the steps of a job to move");
        Robot x = new Robot();
        x.addTape(2, 0);
        x.addCleaner(9, 1);
        x.move(0, 5);
        x.move(1, 9);
        int[][] rows = {{2, NONE, 0, 2}, {2, 0, 1, 2}, {5, 0, 1, 2}, {5, NONE, 0, 5}};
        for (int step = 0; step < rows.length; step++) {
            due("tick(1)", x.tick(1), step == 3 ? 1 : 0);
            due("count(1)", x.count(1), rows[step][0]);
            due("count(2)", x.count(2), rows[step][1]);
            due("item(0, 2)", x.item(0, 2), rows[step][2]);
            due("item(0, 1)", x.item(0, 1), rows[step][3]);
            due("homeOf(5)", x.homeOf(5), step == 3 ? 0 : NONE);
            due("job(0, 6)", x.job(0, 6), step == 3 ? NONE : step + 1);
        }
        due("homeOf(2)", x.homeOf(2), NONE);
        due("job(0, 7)", x.job(0, 7), NONE);
        due("job(0, 8)", x.job(0, 8), NONE);
        due("to its own home: tick(4)", x.tick(4), 1);
        due("homeOf(9)", x.homeOf(9), 1);
        due("count(15)", x.count(15), 2 + 3 + 4);
    }

    private void pleas() {
        title("14 pleas");
        Robot x = new Robot();
        x.addTape(10, 0);
        x.setLimit(bits(5.0f));
        x.move(0, 15);
        due("a cost at the limit: tick(1)", x.tick(1), 0);
        due("count(1)", x.count(1), 10);
        due("meter(0)", x.meter(0), 3.75f);
        x.tick(1);
        // The meter, 2.8125f * 0.75f each tick, has to fall to half a last place of 5.0f: 57 ticks.
        x.tick(57);
        due("count(14)", x.count(14), 57);
        due("job(0, 10)", x.job(0, 10), 57);
        due("job(0, 6)", x.job(0, 6), 2);
        dueEvent(x, 0, 4, 0, NONE, 58);
        dueEvent(x, 9, 4, 0, NONE, 49);
        due("event(10, 0)", x.event(10, 0), NONE);
        due("count(15)", x.count(15), 10);
        x.keep();
        due("tick(1)", x.tick(1), 0);
        due("count(15)", x.count(15), 15);
        due("meter(0)", x.meter(0), 3.75f);
        due("tick(1)", x.tick(1), 1);
        due("count(14)", x.count(14), 57);
        x.restore();
        x.setLimit(bits(4.5f));
        due("tick(100)", x.tick(100), 0);
        due("count(14)", x.count(14), 157);
        x.setLimit(bits(6.0f));
        due("tick(2)", x.tick(2), 1);
        due("count(14)", x.count(14), 157);
        title("14 to go 0 slots is allowed above the limit");
        Robot y = dusty(1, 0);
        y.addTape(20, 0);
        y.addDrive(20);
        y.move(1, 20);
        y.tick(4);
        y.setLimit(bits(1.0f));
        y.setCeiling(0, bits(1.0f));
        y.read(1);
        due("job(2, 7)", y.job(2, 7), NONE);
        due("tick(8)", y.tick(8), 1);
        due("job(2, 7)", y.job(2, 7), 1);
        due("count(14)", y.count(14), 0);
    }

    private void lostReads() {
        title("14 lost reads");
        Robot x = dusty(4, 0);
        x.addTape(10, bits(1.0f));
        x.read(4);
        due("tick(4)", x.tick(4), 0);
        float dust = 4.0f;
        for (int reads = 0; reads < 3; reads++) {
            due("job(4, 9)", x.job(4, 9), NONE);
            due("tick(1)", x.tick(1), 0);
            dust = dust + (1.0f + reads * 0.125f);
            due("dust(0)", x.dust(0), dust);
            dueEvent(x, 0, 2, 4, 0, 36 + reads);
            due("job(4, 6)", x.job(4, 6), reads == 2 ? 5 : 4);
            due("item(4, 4)", x.item(4, 4), reads + 1);
            due("item(4, 6)", x.item(4, 6), reads + 1);
        }
        due("job(4, 9)", x.job(4, 9), 2);
        due("job(4, 3)", x.job(4, 3), 1);
        due("tick(2)", x.tick(2), 0);
        due("job(4, 3)", x.job(4, 3), 1);
        due("tick(1)", x.tick(1), 0);
        due("job(4, 3)", x.job(4, 3), 3);
        due("job(4, 5)", x.job(4, 5), 41);
        due("item(4, 2)", x.item(4, 2), 0);
        dueEvent(x, 0, 6, 4, NONE, 41);
        due("count(7)", x.count(7), 1);
        due("count(12)", x.count(12), 3);
        due("count(11)", x.count(11), 7);
        due("drive(0, 1)", x.drive(0, 1), 7);
        due("drive(0, 2)", x.drive(0, 2), 3);
        due("item(0, 6)", x.item(0, 6), 0);
    }

    private void borderOfALostRead() {
        title("14 the border of a lost read");
        Robot x = dusty(6, 0);
        x.addTape(10, bits(0.5f));
        x.addTape(11, bits(0.5f) + 1);
        x.keep();
        x.read(6);
        due("6.0f * 0.5f is not more than 3.0f: tick(8)", x.tick(8), 1);
        due("count(12)", x.count(12), 0);
        x.restore();
        x.read(7);
        due("6.0f * (0.5f and a bit) is more: tick(5)", x.tick(5), 0);
        due("count(12)", x.count(12), 1);
    }

    private void tooMuchDust() {
        title("14 a drive that is too dusty at the read");
        Robot x = dusty(2, 0);
        x.read(0);
        x.tick(4);
        x.setCeiling(0, bits(2.0f) - 1);
        due("job(2, 9)", x.job(2, 9), NONE);
        due("tick(1)", x.tick(1), 0);
        due("job(2, 9)", x.job(2, 9), 1);
        due("job(2, 6)", x.job(2, 6), 5);
        due("dust(0)", x.dust(0), 2.0f);
        due("item(0, 4)", x.item(0, 4), 1);
        due("count(11)", x.count(11), 2);
        dueEvent(x, 0, 0, 2, NONE, 16);
        x.setCeiling(0, bits(8.0f));
        due("tick(3)", x.tick(3), 0);
        due("job(2, 3)", x.job(2, 3), 3);
        due("job(2, 9)", x.job(2, 9), 1);
        dueEvent(x, 0, 6, 2, NONE, 23);
        title("14 a drive with its ceiling's dust");
        Robot y = dusty(2, 0);
        y.read(0);
        y.setCeiling(0, bits(2.0f));
        due("tick(8)", y.tick(8), 1);
        due("dust(0)", y.dust(0), 3.125f);
        title("14 a drive that becomes too dusty between lost reads");
        Robot z = dusty(5, 0);
        z.addTape(10, bits(1.0f));
        z.setCeiling(0, bits(5.5f));
        z.read(5);
        due("tick(6)", z.tick(6), 0);
        due("count(12)", z.count(12), 1);
        due("job(5, 9)", z.job(5, 9), 1);
    }

    private void whichDriveIsTaken() {
        title("14 which drive a job to read takes");
        Robot x = new Robot();
        x.setLimit(bits(1000.0f));
        x.addDrive(20);
        x.addDrive(1);
        x.addDrive(2);
        for (int tape = 0; tape < 8; tape++) {
            x.addTape(tape, 0);
            x.read(tape);
        }
        x.tick(40);
        int[] taken = {0, 1, 2, 0, 1};
        for (int job = 0; job < taken.length; job++) {
            due("job(" + job + ", 7)", x.job(job, 7), taken[job]);
        }
        x.setCeiling(2, bits(1.0f) + 1);
        x.setCeiling(0, bits(2.0f) - 1);
        x.tick(8);
        due("job(5, 7)", x.job(5, 7), 2);
        x.tick(8);
        due("of 1 and 2 with the dust 2, 2 is above its ceiling: job(6, 7)", x.job(6, 7), 1);
        x.setCeiling(1, bits(1.0f));
        x.tick(16);
        due("none has a dust that is low enough: job(7, 3)", x.job(7, 3), 0);
        due("count(16)", x.count(16), 16);
        due("next()", x.next(), NONE);
    }

    private void whichCleanerIsTaken() {
        title("14 which cleaner a job to clean takes");
        Robot x = new Robot();
        x.setLimit(bits(1000.0f));
        x.addDrive(12);
        x.addCleaner(15, 1);
        x.addCleaner(11, 1);
        x.addCleaner(13, 2);
        x.addTape(12, 0);
        x.move(3, 12);
        x.tick(4);
        due("count(1)", x.count(1), 12);
        for (int job = 1; job < 6; job++) {
            x.clean(0);
        }
        x.tick(8);
        due("of two as near the lower one: job(1, 8)", x.job(1, 8), 1);
        x.tick(8);
        due("from 11: job(2, 8)", x.job(2, 8), 2);
        x.tick(16);
        due("from 13: job(3, 8)", x.job(3, 8), 2);
        due("job(4, 8)", x.job(4, 8), 0);
        x.tick(8);
        due("none has a use: job(5, 3)", x.job(5, 3), 0);
        due("job(5, 8)", x.job(5, 8), NONE);
        x.refill(1, 1);
        x.tick(8);
        due("job(5, 8)", x.job(5, 8), 1);
        due("count(13)", x.count(13), 5);
    }

    private void lastTick() {
        title("14 the last tick");
        Robot x = new Robot();
        for (int i = 0; i < 99; i++) {
            x.tick(100);
        }
        x.tick(99);
        due("count(0)", x.count(0), 9999);
        dueNothing(x, NOT_POSSIBLE, r -> r.tick(2));
        dueNothing(x, BAD_VALUE, r -> r.tick(101));
        dueAct(x, 0, r -> r.tick(1));
        dueNothing(x, NOT_POSSIBLE, r -> r.tick(1));
        dueNothing(x, NOT_POSSIBLE, r -> r.tick(100));
        dueNothing(x, BAD_VALUE, r -> r.tick(0));
        x.addTape(2, 0);
        x.move(0, 3);
        due("beyond the tick 10000: fate(0, 1)", x.fate(0, 1), 4);
        due("count(16)", x.count(16), 10000);
    }

    // ---- texts

    private void type() {
        title("15 type");
        Robot x = new Robot();
        char[] any = {'r', ' ', 0, (char) 127, (char) 233, (char) 255, (char) 256, Character.MAX_VALUE};
        for (int i = 0; i < 60; i++) {
            due("type", x.type(any[i % any.length]), i + 1);
        }
        due("type", x.type('r'), FULL);
        due("count(19)", x.count(19), 60);
        due("it is no act: count(18)", x.count(18), 0);
        due("undo()", x.undo(), NONE);
        due("readJobs()", x.readJobs(), -101);
        due("count(19)", x.count(19), 60);
    }

    private void clearText() {
        title("16 clearText");
        Robot x = new Robot();
        due("clearText()", x.clearText(), 0);
        x.typeAll("r0;");
        due("clearText()", x.clearText(), 3);
        due("count(19)", x.count(19), 0);
        due("clearText()", x.clearText(), 0);
        due("it is no act: count(18)", x.count(18), 0);
        x.typeAll("c1");
        due("readJobs()", x.readJobs(), UNKNOWN);
    }

    private void readJobs() {
        title("17 readJobs");
        Robot x = new Robot();
        x.addDrive(3);
        x.addTape(1, 0);
        x.addCleaner(2, 4);
        x.typeAll("r0;c0;m1>23;m0>0");
        dueAct(x, 4, Robot::readJobs);
        dueNewJob(x, 0, 0, 0, NONE);
        dueNewJob(x, 1, 1, 0, NONE);
        dueNewJob(x, 2, 2, 1, 23);
        dueNewJob(x, 3, 2, 0, 0);
        due("the text stays: count(19)", x.count(19), 16);
        dueAct(x, 4, Robot::readJobs);
        due("count(4)", x.count(4), 8);
        due("one act: undo()", x.undo(), 3);
        due("count(4)", x.count(4), 4);
        due("the text is no part of a state: count(19)", x.count(19), 16);
        String[] unknown = {"r2", "c1", "m2>0", "m0>24", "m0>99", "r0;r99", "r0;c9;r1", "m1>24;r1"};
        for (String text : unknown) {
            x.clearText();
            x.typeAll(text);
            dueNothing(x, UNKNOWN, Robot::readJobs);
        }
        for (String text : new String[] {"r1", "r0;r1;c9", "m1>0;r1;r2"}) {
            x.clearText();
            x.typeAll(text);
            dueNothing(x, NOT_POSSIBLE, Robot::readJobs);
        }
        for (int job = x.count(4); job < 29; job++) {
            x.read(0);
        }
        due("r0;r0", x.readJobsOf("r0;r0"), FULL);
        due("r0;r1", x.readJobsOf("r0;r1"), NOT_POSSIBLE);
        due("r0;r2", x.readJobsOf("r0;r2"), UNKNOWN);
        due("r0;", x.readJobsOf("r0;"), -103);
        due("count(4)", x.count(4), 29);
        due("c0", x.readJobsOf("c0"), 1);
        dueNothing(x, FULL, Robot::readJobs);
    }

    private void faultsOfTexts() {
        title("17 the faults of texts");
        Robot x = new Robot();
        x.addTape(10, 0);
        String[] texts = {"", "r", "c", "m", "x", "R0", "0", ";", " r0", "r0;", "r0;;", "r0 ", "r0;x", "r00", "r01",
            "r100", "r123", "m0", "m0>", "m0>0>", "m0;", "m00>1", "m0>00", "m0>05", "m10>230", "m>1", "c>", "r0>1",
            "c0>1", "m0>-1", "r-1", "r1/", "r1:", "r/", "r:", "r0r0", "m0>1;c0;m1>", "r" + (char) 304, "r0,r0",
            "" + (char) 114 + (char) 0, "m1>2;r10;c3", "r9" + (char) 0xFF11};
        int[] faults = {0, 1, 1, 1, 0, 0, 0, 0, 0, 3, 3, 2, 3, 2, 2,
            3, 3, 2, 3, 4, 2, 2, 4, 4, 6, 1, 1, 2,
            2, 3, 1, 2, 2, 1, 1, 2, 11, 1, 2,
            1, NONE, 2};
        for (int i = 0; i < texts.length; i++) {
            due(texts[i], x.readJobsOf(texts[i]), faults[i] == NONE ? UNKNOWN : -100 - faults[i]);
        }
        due("count(18)", x.count(18), 1);
        StringBuilder longest = new StringBuilder("r0");
        while (longest.length() < 59) {
            longest.append(";r0");
        }
        due("twenty jobs", x.readJobsOf(longest.toString()), 20);
        x.undo();
        longest.append(';');
        due("a fault behind 60 characters", x.readJobsOf(longest.toString()), -160);
        longest.setCharAt(0, 'm');
        due("m in place of r", x.readJobsOf(longest.toString()), -102);
    }

    // ---- history

    private void undo() {
        title("18 undo");
        Robot x = new Robot();
        String[] states = new String[8];
        for (int i = 0; i < 8; i++) {
            states[i] = Told.state(x);
            x.addTape(i, 0);
            due("count(18)", x.count(18), Math.min(i + 1, 4));
        }
        x.type('r');
        for (int left = 3; left >= 0; left--) {
            due("undo()", x.undo(), left);
            due("the state", Told.state(x), states[4 + left]);
            due("count(18)", x.count(18), left);
        }
        due("undo()", x.undo(), NONE);
        due("the state", Told.state(x), states[4]);
        due("count(19)", x.count(19), 1);
        due("a number is given again: addTape", x.addTape(9, 0), 4);
        due("homeOf(9)", x.homeOf(9), 4);
        title("18 undo brings everything back");
        Robot y = crowded();
        for (int ticks = 1; ticks < 60; ticks += 7) {
            String before = Told.state(y);
            y.tick(ticks);
            y.undo();
            due("the state", Told.state(y), before);
            y.tick(ticks);
        }
    }

    /** A robot with all kinds of things and jobs. */
    private static Robot crowded() {
        Robot x = new Robot();
        crowd(x);
        return x;
    }

    private static void crowd(Robot x) {
        x.addDrive(4);
        x.addDrive(19);
        for (int tape = 0; tape < 6; tape++) {
            x.addTape(tape * 3, bits(tape / 5.0f));
        }
        x.addCleaner(23, 3);
        x.addCleaner(11, 2);
        x.typeAll("r1;r2;r5;c0;r5;r5;m2>22;c1;r3;m7>10;r4;r5;c0;r5");
        x.readJobs();
        x.setCeiling(0, bits(5.0f));
        x.setLimit(bits(15.0f));
    }

    private void keepAndRestore() {
        title("19 keep, 20 restore");
        Robot x = crowded();
        dueNothing(x, NONE, Robot::restore);
        x.tick(33);
        int states = x.count(18);
        due("keep()", x.keep(), 33);
        due("it is no act: count(18)", x.count(18), states);
        String kept = Told.state(x);
        x.tick(50);
        x.addTape(1, 0);
        x.clearText();
        String later = Told.state(x);
        x.undo();
        dueAct(x, 33, Robot::restore);
        due("the state", Told.state(x), kept);
        due("the text is no part of it: count(19)", x.count(19), 0);
        x.undo();
        due("it is an act, which is undone: count(0)", x.count(0), 83);
        x.addTape(1, 0);
        due("the state", Told.state(x), later);
        x.restore();
        x.tick(10);
        x.restore();
        due("the snapshot stays: the state", Told.state(x), kept);
        due("a snapshot in place of it: keep()", x.keep(), 33);
        x.tick(4);
        due("keep()", x.keep(), 37);
        kept = Told.state(x);
        x.tick(4);
        dueAct(x, 37, Robot::restore);
        due("the state", Told.state(x), kept);
        dueAct(x, 37, Robot::restore);
    }

    private void numbersAreGivenAgain() {
        title("20 a robot that is brought back to its beginning is as new");
        Robot x = new Robot();
        x.keep();
        crowd(x);
        for (int i = 0; i < 4; i++) {
            x.tick(100);
        }
        due("some reads are lost: count(12)", x.count(12) >= 2 ? 1 : 0, 1);
        due("some jobs are lost: count(7)", x.count(7) >= 1 ? 1 : 0, 1);
        due("restore()", x.restore(), 0);
        x.clearText();
        due("the state", Told.state(x), Told.state(new Robot()));
        crowd(x);
        Robot fresh = crowded();
        for (int i = 0; i < 80; i++) {
            due("the state", Told.state(x), Told.state(fresh));
            x.tick(5);
            fresh.tick(5);
        }
    }

    private void statesOfOtherThings() {
        title("18, 20 the same numbers stand for other things in each state");
        Robot x = new Robot();
        x.addDrive(4);
        x.addTape(2, bits(1.0f));
        x.read(0);
        x.tick(7);
        String first = Told.state(x);
        x.keep();
        for (int left = 3; left >= 0; left--) {
            due("undo()", x.undo(), left);
        }
        x.addCleaner(7, 9);
        x.addDrive(9);
        x.clean(0);
        x.tick(4);
        String second = Told.state(x);
        due("restore()", x.restore(), 7);
        due("the first state", Told.state(x), first);
        due("undo()", x.undo(), 3);
        due("the second state", Told.state(x), second);
        due("fate(0, 1)", x.fate(0, 1), 4);
        x.restore();
        due("tick(1)", x.tick(1), 1);
        due("item(0, 0)", x.item(0, 0), 0);
        due("fate(0, 1)", x.fate(0, 1), NOT_POSSIBLE);
        title("18 what is added again has nothing of what was there");
        Robot y = new Robot();
        y.addTape(3, bits(1.0f));
        y.undo();
        y.addCleaner(3, 1);
        due("item(0, 5)", y.item(0, 5), 0);
        y.undo();
        y.addTape(3, bits(0.5f));
        due("item(0, 0)", y.item(0, 0), 0);
        due("item(0, 4)", y.item(0, 4), 0);
        y.keep();
        y.move(0, 5);
        y.putOff(0, 77);
        y.restore();
        y.move(0, 6);
        due("job(0, 11)", y.job(0, 11), 0);
        due("fate(0, 1)", y.fate(0, 1), 4);
    }

    private void aKeptStateGoesOn() {
        title("20 a state that was kept goes on as it would have");
        Robot x = new Robot();
        Robot y = new Robot();
        for (Robot robot : new Robot[] {x, y}) {
            robot.addDrive(4);
            robot.addTape(2, bits(1.0f));
            robot.typeAll("r0;r0;r0;r0;m0>9;r0");
            robot.readJobs();
            robot.tick(28);
        }
        x.keep();
        for (int left = 3; left >= 0; left--) {
            due("undo()", x.undo(), left);
        }
        x.addTape(5, 0);
        x.addDrive(7);
        x.addCleaner(20, 3);
        due("other jobs", x.readJobsOf("m0>1;m1>3;r0;c0;r0;r0"), 6);
        x.tick(13);
        x.restore();
        for (int ticks = 0; ticks < 60; ticks++) {
            due("the state", Told.state(x), Told.state(y));
            for (int job = 0; job < 6; job++) {
                due("fate(" + job + ", 1)", x.fate(job, 1), y.fate(job, 1));
            }
            x.tick(1);
            y.tick(1);
        }
        due("count(12)", x.count(12), 4);
        due("job(3, 9)", x.job(3, 9), 2);
        due("job(5, 9)", x.job(5, 9), 1);
    }

    private void aStateAmidLostReads() {
        title("20 a state that was kept between lost reads");
        Robot x = dusty(4, 0);
        x.addTape(10, bits(1.0f));
        x.read(4);
        x.tick(5);
        due("count(12)", x.count(12), 1);
        x.keep();
        for (int turn = 0; turn < 2; turn++) {
            due("fate(4, 1)", x.fate(4, 1), 5);
            x.tick(1);
            due("job(4, 9)", x.job(4, 9), NONE);
            x.tick(1);
            due("job(4, 9)", x.job(4, 9), 2);
            x.tick(3);
            due("job(4, 3)", x.job(4, 3), 3);
            x.restore();
        }
    }

    private void countsOfSeveralDrives() {
        title("34 counts of several drives");
        Robot x = new Robot();
        x.setLimit(bits(1000.0f));
        x.addDrive(2);
        x.addDrive(4);
        x.setCeiling(0, bits(500.0f));
        x.setCeiling(1, bits(500.0f));
        x.addTape(3, bits(1.0f));
        x.addCleaner(5, 9);
        x.typeAll("r0;r0;r0;r0;r0;r0;r0;r0;c0;c0;c1");
        x.readJobs();
        x.tick(100);
        int lost = x.drive(0, 2) + x.drive(1, 2);
        due("reads of both", x.drive(0, 1) > 0 && x.drive(1, 1) > 0 ? 1 : 0, 1);
        due("lost reads of both", x.drive(0, 2) > 0 && x.drive(1, 2) > 0 ? 1 : 0, 1);
        due("count(11)", x.count(11), x.drive(0, 1) + x.drive(1, 1));
        due("count(11) of the tape", x.count(11), x.item(0, 4));
        due("count(12)", x.count(12), lost);
        due("count(12) of the tape", x.count(12), x.item(0, 6));
        due("drive(0, 3)", x.drive(0, 3), 2);
        due("drive(1, 3)", x.drive(1, 3), 1);
        due("count(13)", x.count(13), 3);
        due("count(17)", x.count(17), 6);
    }

    private void aFullRobot() {
        title("2 to 20 a robot with all that it can hold");
        Robot x = new Robot();
        x.setLimit(bits(1000.0f));
        for (int drive = 0; drive < 4; drive++) {
            x.addDrive(drive * 7);
        }
        for (int item = 0; item < 9; item++) {
            x.addTape(item, 0);
            x.addCleaner(23 - item, 1);
        }
        x.keep();
        for (int job = 0; job < 30; job++) {
            due("read(0)", job % 3 == 2 ? x.clean(job % 4) : x.read(job % 9 * 2), job);
        }
        dueAct(x, 12, r -> r.tick(100));
        dueNothing(x, FULL, r -> r.clean(0));
        due("undo()", x.undo(), 3);
        due("undo()", x.undo(), 2);
        due("the last job is taken back: job(29, 0)", x.job(29, 0), UNKNOWN);
        due("move(17, 12)", x.move(17, 12), 29);
        due("fate(29, 0)", x.fate(29, 0), 2);
        due("tick(100)", x.tick(100), 12);
        due("restore()", x.restore(), 0);
        due("next()", x.next(), NONE);
        due("count(17)", x.count(17), 9);
        due("clean(0)", x.clean(0), 0);
        due("tick(100)", x.tick(100), 1);
        due("the last item is the nearest: job(0, 8)", x.job(0, 8), 17);
    }

    // ---- what is told

    private void item() {
        title("21 item");
        Robot x = new Robot();
        x.addDrive(0);
        x.addTape(3, bits(0.25f));
        x.addCleaner(4, 9);
        due("item(-1, 0)", x.item(-1, 0), UNKNOWN);
        due("item(2, 0)", x.item(2, 0), UNKNOWN);
        due("item(2, 8)", x.item(2, 8), UNKNOWN);
        due("item(0, -1)", x.item(0, -1), BAD_VALUE);
        due("item(0, 8)", x.item(0, 8), BAD_VALUE);
        due("item(1, most)", x.item(1, MOST), BAD_VALUE);
        int[] tape = {0, 3, 0, NONE, 0, bits(0.25f), 0, 0};
        int[] cleaner = {1, 4, 0, NONE, 9, 0, 0, 0};
        for (int what = 0; what < 8; what++) {
            due("item(0, " + what + ")", x.item(0, what), tape[what]);
            due("item(1, " + what + ")", x.item(1, what), cleaner[what]);
        }
        x.clean(0);
        due("a job to clean that waits: item(1, 7)", x.item(1, 7), 0);
        due("of the drive's number: item(0, 7)", x.item(0, 7), 0);
        x.tick(1);
        due("a job to clean under way: item(1, 7)", x.item(1, 7), 1);
        x.move(1, 5);
        x.read(0);
        x.read(0);
        x.move(0, 7);
        due("item(1, 7)", x.item(1, 7), 2);
        due("item(0, 7)", x.item(0, 7), 3);
        x.withdraw(2);
        due("item(0, 7)", x.item(0, 7), 2);
        x.tick(7);
        due("item(1, 7)", x.item(1, 7), 1);
        x.tick(1);
        due("a job to read under way: item(0, 7)", x.item(0, 7), 2);
        x.tick(7);
        due("a job to read that is done: item(0, 7)", x.item(0, 7), 1);
        x.tick(1);
        due("the job under way: count(3)", x.count(3), 1);
        due("a job to move under way: item(1, 7)", x.item(1, 7), 1);
        x.tick(7);
        due("item(1, 7)", x.item(1, 7), 0);
        due("item(0, 7)", x.item(0, 7), 0);
        due("item(0, 1)", x.item(0, 1), 7);
        due("item(1, 1)", x.item(1, 1), 5);
    }

    private void homeOf() {
        title("22 homeOf");
        Robot x = new Robot();
        x.addDrive(1);
        x.addTape(0, 0);
        x.addCleaner(23, 1);
        due("homeOf(-1)", x.homeOf(-1), UNKNOWN);
        due("homeOf(24)", x.homeOf(24), UNKNOWN);
        due("homeOf(0)", x.homeOf(0), 0);
        due("homeOf(23)", x.homeOf(23), 1);
        due("homeOf(1)", x.homeOf(1), NONE);
        x.read(0);
        for (int ticks = 0; ticks < 8; ticks++) {
            x.tick(1);
            due("while it is read: homeOf(0)", x.homeOf(0), 0);
        }
    }

    private void drive() {
        title("23 drive");
        Robot x = dusty(3, 0);
        due("drive(-1, 0)", x.drive(-1, 0), UNKNOWN);
        due("drive(1, 6)", x.drive(1, 6), UNKNOWN);
        due("drive(0, -1)", x.drive(0, -1), BAD_VALUE);
        due("drive(0, 6)", x.drive(0, 6), BAD_VALUE);
        int[] told = {0, 3, 0, 0, NONE, 0};
        for (int what = 0; what < told.length; what++) {
            due("drive(0, " + what + ")", x.drive(0, what), told[what]);
        }
        x.setCeiling(0, bits(3.0f));
        due("at its ceiling: drive(0, 5)", x.drive(0, 5), 0);
        x.setCeiling(0, bits(3.0f) - 1);
        due("above its ceiling: drive(0, 5)", x.drive(0, 5), 1);
        x.addCleaner(9, 1);
        x.clean(0);
        x.tick(4);
        due("a cleaner is in it: drive(0, 4)", x.drive(0, 4), 3);
        x.tick(4);
        due("drive(0, 3)", x.drive(0, 3), 1);
        due("drive(0, 4)", x.drive(0, 4), NONE);
        due("drive(0, 5)", x.drive(0, 5), 0);
    }

    private void dustAndCeiling() {
        title("24 dust, 25 ceiling");
        Robot x = dusty(1, 0);
        for (int drive : new int[] {-1, 1, 4, LEAST, MOST}) {
            due("dust(" + drive + ")", x.dust(drive), Float.NaN);
            due("ceiling(" + drive + ")", x.ceiling(drive), Float.NaN);
        }
        float dust = 1.0f;
        for (int reads = 1; reads < 6; reads++) {
            due("dust(0)", x.dust(0), dust);
            x.read(0);
            x.tick(8);
            dust = dust + (1.0f + reads * 0.125f);
        }
        x.addCleaner(1, 9);
        for (int cleanings = 0; cleanings < 5; cleanings++) {
            due("dust(0)", x.dust(0), dust);
            x.clean(0);
            x.tick(8);
            dust = dust * 0.125f;
        }
        x.setCeiling(0, bits(77.7f));
        due("ceiling(0)", x.ceiling(0), 77.7f);
    }

    private void meter() {
        title("26 meter");
        Robot x = new Robot();
        for (int what : new int[] {-1, 3, LEAST, MOST}) {
            due("meter(" + what + ")", x.meter(what), Float.NaN);
        }
        x.addDrive(0);
        x.addDrive(1);
        x.addDrive(2);
        for (int tape = 0; tape < 5; tape++) {
            x.addTape(tape, 0);
            x.read(tape);
        }
        x.addCleaner(5, 50);
        x.tick(40);
        for (int job = 0; job < 9; job++) {
            x.clean(0);
        }
        x.tick(100);
        due("dust(0)", x.dust(0), 2.0f / (1 << 27));
        due("added by their numbers: meter(2)", x.meter(2), 0.0f + x.dust(0) + x.dust(1) + x.dust(2));
        due("meter(2)", x.meter(2), 3.0f);
        x.setLimit(bits(999.0f));
        x.setCeiling(0, bits(500.0f));
        x.read(0);
        x.read(1);
        x.tick(16);
        due("dust(0)", x.dust(0), 2.0f / (1 << 27) + 1.125f);
        due("meter(2)", x.meter(2), 0.0f + x.dust(0) + x.dust(1) + x.dust(2));
        float meter = x.meter(0);
        x.tick(1);
        due("meter(0)", x.meter(0), meter * 0.75f);
        x.setLimit(bits(1.5f));
        due("meter(1)", x.meter(1), 1.5f);
    }

    private void job() {
        title("27 job");
        Robot x = new Robot();
        x.addDrive(0);
        x.addDrive(5);
        x.addTape(1, 0);
        x.addCleaner(2, 3);
        x.read(0);
        x.clean(1);
        x.move(0, 9);
        due("job(-1, 0)", x.job(-1, 0), UNKNOWN);
        due("job(3, 12)", x.job(3, 12), UNKNOWN);
        due("job(0, -1)", x.job(0, -1), BAD_VALUE);
        due("job(0, 12)", x.job(0, 12), BAD_VALUE);
        x.putOff(1, 5);
        x.tick(8);
        int[][] rows = {{0, 0, NONE, 2, 0, 7, NONE, 0, NONE, NONE, 0, 0}, {1, 1, NONE, 0, NONE, NONE, NONE, NONE, NONE,
            NONE, 0, 5}, {2, 0, 9, 0, NONE, NONE, NONE, NONE, NONE, NONE, 0, 0}};
        dueJobs(x, rows);
        x.tick(3);
        rows[1] = new int[] {1, 1, NONE, 1, 8, NONE, 3, 1, 1, NONE, 0, 5};
        dueJobs(x, rows);
        x.tick(6);
        rows[1] = new int[] {1, 1, NONE, 2, 8, 15, NONE, 1, 1, NONE, 0, 5};
        rows[2] = new int[] {2, 0, 9, 1, 16, NONE, 1, NONE, NONE, NONE, 0, 0};
        dueJobs(x, rows);
        x.setLimit(bits(1.0f));
        x.tick(20);
        rows[2] = new int[] {2, 0, 9, 1, 16, NONE, 2, NONE, NONE, NONE, 19, 0};
        dueJobs(x, rows);
    }

    private void dueJobs(Robot x, int[][] rows) {
        for (int job = 0; job < rows.length; job++) {
            for (int what = 0; what < rows[job].length; what++) {
                due("job(" + job + ", " + what + ")", x.job(job, what), rows[job][what]);
            }
        }
    }

    private void order() {
        title("28 order");
        Robot x = dusty(3, 0);
        x.addDrive(9);
        due("order(-1)", x.order(-1), BAD_VALUE);
        due("order(least)", x.order(LEAST), BAD_VALUE);
        due("order(0)", x.order(0), NONE);
        x.move(0, 0);
        x.clean(1);
        x.clean(0);
        x.read(2);
        x.move(1, 2);
        x.read(0);
        x.clean(0);
        dueOrder(x, 6, 8, 4, 5, 9, 3, 7);
        x.setCeiling(0, bits(2.5f));
        dueOrder(x, 5, 9, 6, 8, 4, 3, 7);
        x.setOrder(2, 1);
        dueOrder(x, 5, 9, 3, 7, 4, 6, 8);
        x.putOff(9, 9000);
        x.putOff(3, 9000);
        dueOrder(x, 5, 9, 3, 7, 4, 6, 8);
        x.withdraw(7);
        dueOrder(x, 5, 9, 3, 4, 6, 8);
        due("order(most)", x.order(MOST), NONE);
        x.putOff(3, 0);
        x.tick(1);
        due("count(3)", x.count(3), 3);
        dueOrder(x, 5, 9, 4, 6, 8);
    }

    private void next() {
        title("29 next");
        Robot x = dusty(3, 0);
        due("next()", x.next(), NONE);
        x.move(0, 1);
        due("to a home of another item: next()", x.next(), NONE);
        x.move(0, 0);
        due("to its own home: next()", x.next(), 4);
        x.clean(0);
        due("no cleaner: next()", x.next(), 4);
        x.addCleaner(20, 1);
        due("next()", x.next(), 5);
        x.read(1);
        due("next()", x.next(), 6);
        x.setCeiling(0, bits(1.0f));
        due("a drive that is too dusty: next()", x.next(), 5);
        x.putOff(5, x.count(0) + 1);
        due("it is put off: next()", x.next(), 4);
        x.tick(1);
        due("the job under way: count(3)", x.count(3), 4);
        due("no longer put off: next()", x.next(), 5);
        x.setCeiling(0, bits(8.0f));
        due("next()", x.next(), 6);
        x.withdraw(6);
        x.withdraw(5);
        due("next()", x.next(), NONE);
        x.move(3, 9);
        due("next()", x.next(), 7);
        x.tick(4);
        due("next()", x.next(), NONE);
    }

    private void mayGo() {
        title("30 mayGo");
        Robot x = new Robot();
        x.addTape(20, 0);
        x.setLimit(bits(10.0f));
        due("mayGo(-1)", x.mayGo(-1), UNKNOWN);
        due("mayGo(24)", x.mayGo(24), UNKNOWN);
        due("at the limit: mayGo(20)", x.mayGo(20), 0);
        due("above the limit: mayGo(21)", x.mayGo(21), NONE);
        due("mayGo(0)", x.mayGo(0), 0);
        x.move(0, 17);
        x.tick(1);
        due("with 7.5f: mayGo(15)", x.mayGo(15), 0);
        due("mayGo(14)", x.mayGo(14), 1);
        due("mayGo(0)", x.mayGo(0), 58);
        x.tick(1);
        due("with 5.625f and a tape: mayGo(17)", x.mayGo(17), 0);
        due("mayGo(16)", x.mayGo(16), 0);
        due("mayGo(15)", x.mayGo(15), 1);
        due("mayGo(10)", x.mayGo(10), 57);
        due("mayGo(9)", x.mayGo(9), NONE);
        x.setLimit(bits(1.0f));
        due("to where it is: mayGo(20)", x.mayGo(20), 0);
        due("mayGo(19)", x.mayGo(19), 64);
        due("it is no act", x.count(1), 20);
    }

    private void fate() {
        title("31 fate");
        Robot x = dusty(2, 0);
        x.move(0, 5);
        x.read(1);
        due("fate(-1, 0)", x.fate(-1, 0), UNKNOWN);
        due("fate(4, 3)", x.fate(4, 3), UNKNOWN);
        due("fate(0, 3)", x.fate(0, 3), BAD_VALUE);
        due("fate(2, -1)", x.fate(2, -1), BAD_VALUE);
        due("done: fate(0, 0)", x.fate(0, 0), NOT_POSSIBLE);
        dueFate(x, 3, 2, 8, 0);
        dueFate(x, 2, 2, 12, 0);
        x.tick(3);
        dueFate(x, 3, 2, 5, 0);
        x.setCeiling(0, bits(1.0f));
        dueFate(x, 3, 3, 5, 0);
        x.setCeiling(0, bits(8.0f));
        x.putOff(2, x.count(0) + 396);
        dueFate(x, 2, 2, 400, 0);
        x.putOff(2, x.count(0) + 397);
        dueFate(x, 2, NONE, NONE, NONE);
        x.putOff(2, 0);
        x.tick(5);
        x.tick(2);
        x.setLimit(bits(1.0f));
        x.tick(5);
        due("job(2, 10)", x.job(2, 10), 5);
        dueFate(x, 2, NONE, NONE, NONE);
        x.setLimit(bits(5.0f) + 1);
        String before = Told.all(x);
        int ticks = 0;
        float meter = x.meter(0);
        while (ticks < 400 && meter + 5.0f > x.meter(1)) {
            meter = meter * 0.75f;
            ticks++;
        }
        due("some ticks", ticks > 5 ? 1 : 0, 1);
        dueFate(x, 2, 2, ticks + 2, ticks + 5);
        due("nothing has changed", Told.all(x), before);
        x.withdraw(2);
        x.move(0, 5);
        x.withdraw(4);
        due("withdrawn: fate(4, 0)", x.fate(4, 0), NOT_POSSIBLE);
        due("withdrawn: fate(4, 3)", x.fate(4, 3), BAD_VALUE);
    }

    private void takes() {
        title("32 takes");
        Robot x = new Robot();
        x.addTape(3, 0);
        x.addCleaner(4, 1);
        due("takes(0, -1)", x.takes(0, -1), UNKNOWN);
        due("takes(2, 2)", x.takes(2, 2), UNKNOWN);
        due("takes(2, 0)", x.takes(2, 0), BAD_VALUE);
        due("takes(-1, 1)", x.takes(-1, 1), BAD_VALUE);
        due("takes(0, 0)", x.takes(0, 0), 1);
        due("takes(1, 0)", x.takes(1, 0), 0);
        due("takes(0, 1)", x.takes(0, 1), 0);
        due("takes(1, 1)", x.takes(1, 1), 1);
    }

    private void event() {
        title("33 event");
        Robot x = new Robot();
        x.addTape(0, 0);
        for (int job = 0; job < 7; job++) {
            x.move(0, 0);
        }
        due("event(-1, 0)", x.event(-1, 0), BAD_VALUE);
        due("event(0, -1)", x.event(0, -1), BAD_VALUE);
        due("event(0, 4)", x.event(0, 4), BAD_VALUE);
        due("event(most, 4)", x.event(MOST, 4), BAD_VALUE);
        due("event(most, 0)", x.event(MOST, 0), NONE);
        x.tick(1);
        dueEvent(x, 0, 0, 0, NONE, 0);
        due("event(1, 0)", x.event(1, 0), NONE);
        x.tick(27);
        for (int back = 0; back < 10; back++) {
            int job = 6 - back / 2;
            dueEvent(x, back, back % 2 == 0 ? 5 : 0, job, NONE, back % 2 == 0 ? job * 4 + 3 : job * 4);
        }
        due("event(10, 0)", x.event(10, 0), NONE);
        due("event(9, 4)", x.event(9, 4), BAD_VALUE);
        due("event(10, 4)", x.event(10, 4), BAD_VALUE);
        x.undo();
        dueEvent(x, 0, 0, 0, NONE, 0);
        due("event(1, 0)", x.event(1, 0), NONE);
    }

    private void count() {
        title("34 count");
        Robot x = dusty(3, bits(1.0f));
        for (int what : new int[] {-1, 20, LEAST, MOST}) {
            due("count(" + what + ")", x.count(what), BAD_VALUE);
        }
        dueCounts(x, 24, 2, NONE, NONE, 0, 0, 3, 0, 0, 3, 1, 3, 0, 0, 0, 8, 0, 0, 4, 0);
        x.addCleaner(10, 4);
        x.addCleaner(12, 5);
        x.read(0);
        x.clean(0);
        x.read(0);
        x.read(0);
        x.move(2, 7);
        x.withdraw(6);
        x.typeAll("abc");
        x.tick(2);
        // A read with the dust 3.0f is not lost; the two behind it are, each three times.
        dueCounts(x, 26, 0, 0, 3, 3, 1, 3, 0, 1, 5, 1, 3, 0, 0, 0, 10, 0, 9, 4, 3);
        x.tick(14);
        due("count(12)", x.count(12), 3);
        due("count(7)", x.count(7), 0);
        x.tick(2);
        due("count(7)", x.count(7), 1);
        x.setLimit(bits(1.0f));
        x.tick(50);
        // The clean job begins now: 10 slots cost 5.0f, and the limit is 1.0f.
        dueCounts(x, 92, 0, NONE, 4, 1, 1, 4, 1, 1, 5, 1, 7, 3, 0, 50, 10, 0, 9, 4, 3);
    }

    private void dueCounts(Robot x, int... counts) {
        for (int what = 0; what < counts.length; what++) {
            due("count(" + what + ")", x.count(what), counts[what]);
        }
    }
}
