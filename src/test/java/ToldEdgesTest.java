/** The edges that the document names of what is told: promises 21 to 34. */
final class ToldEdgesTest extends RobotChecks {
    /** A question with one number. */
    private interface Question {
        int answer(Robot x, int number);
    }

    public static void main(String[] args) {
        ToldEdgesTest test = new ToldEdgesTest();
        test.things();
        test.dust();
        test.jobs();
        test.forecasts();
        test.theRest();
        test.questionsChangeNothing();
        test.end();
    }

    private void things() {
        numbersOfItems();
        whatOfAnItem();
        whereAnItemIs();
        readsOrUses();
        jobsWithAnItem();
        homes();
        numbersOfDrives();
        whatOfADrive();
        moreThanItsCeiling();
    }

    private void dust() {
        amountsOfDrives();
        amountsOfTheMeter();
        addedByTheirNumbers();
    }

    private void jobs() {
        numbersOfJobs();
        whatOfAJob();
        whenAJobBeganAndEnded();
        theStepOfAJob();
        whatAJobTakes();
        theReasonOfALoss();
        placesInTheOrder();
        whatIsInTheOrder();
        theNextJob();
    }

    private void forecasts() {
        slotsToGoTo();
        howManyTicksUntilThen();
        withWhatIsInTheHand();
        notWithinAHundred();
        checksOfFate();
        upToFourHundredTicks();
        beyondTheLastTick();
        pleasSoFar();
        theFateOfALostJob();
        theFateOfOneBehindOthers();
    }

    private void theRest() {
        sortsOfItems();
        eventsThatAreKnown();
        theDriveOfAnEvent();
        whatIsCounted();
        countsAtTheirEdges();
    }

    /** The numbers from the first to the last one are answered, and those beside them are not. */
    private void dueWhat(String name, Robot x, int first, int last, Question question) {
        for (int what = first; what <= last; what++) {
            int answer = question.answer(x, what);
            due(name + " of " + what + " is answered: " + answer, answer == BAD_VALUE ? 0 : 1, 1);
        }
        for (int what : new int[] {first - 1, last + 1, LEAST, MOST}) {
            due(name + " of " + what, question.answer(x, what), BAD_VALUE);
        }
    }

    /** There are things with the numbers from 0 on, so many of them, and none beside. */
    private void dueNumbers(String name, Robot x, int many, Question question) {
        for (int number = 0; number < many; number++) {
            int answer = question.answer(x, number);
            due(name + " of " + number + " is answered: " + answer, answer == UNKNOWN ? 0 : 1, 1);
        }
        for (int number : new int[] {-1, many, many + 1, LEAST, MOST}) {
            due(name + " of " + number, question.answer(x, number), UNKNOWN);
        }
    }

    // ---- promises 21 to 23

    private void numbersOfItems() {
        title("21: UNKNOWN; BAD_VALUE");
        Robot x = new Robot();
        for (int items = 0; items <= 18; items++) {
            dueNumbers("item", x.again(), items, (r, item) -> r.item(item, 0));
            dueNumbers("item with a wrong what", x.again(), 0, (r, item) -> r.item(item < 0 ? item : 18, -1));
            x.addTape(items, 0);
        }
        dueNumbers("item", busy(), 7, (r, item) -> r.item(item, 7));
        due("both are wrong: item(7, 8)", busy().item(7, 8), UNKNOWN);
    }

    private void whatOfAnItem() {
        title("21: what is 0 to 7");
        dueWhat("a tape", busy(), 0, 7, (r, what) -> r.item(0, what));
        dueWhat("a cleaner", busy(), 0, 7, (r, what) -> r.item(6, what));
    }

    private void whereAnItemIs() {
        title("21: where it is, and the drive in which it is (NONE if it is in none)");
        Robot x = new Robot();
        for (int drive = 0; drive < 4; drive++) {
            x.addDrive(drive);
        }
        x.addTape(10, 0);
        x.addCleaner(5, 2);
        x.setLimit(bits(1000.0f));
        x.clean(3);
        x.read(0);
        dueWhere(x, 0, 0, 1);
        dueWhere(x, 1, 3, 0);
    }

    /** Step by step, while the one item is carried to the drive and back, and the other one stays at home. */
    private void dueWhere(Robot x, int item, int drive, int other) {
        int[] where = {1, 1, 2, 2, 1, 1, 0};
        x.tick(1);
        for (int place : where) {
            x.tick(1);
            due("item(" + item + ", 2)", x.item(item, 2), place);
            due("item(" + item + ", 3)", x.item(item, 3), place == 2 ? drive : NONE);
            due("at home: item(" + other + ", 2)", x.item(other, 2), 0);
            due("at home: item(" + other + ", 3)", x.item(other, 3), NONE);
        }
    }

    private void readsOrUses() {
        title("21: reads or uses, the bits of the frailty, and lost reads (0 if it is a cleaner)");
        Robot x = new Robot();
        x.addTape(0, 1);
        x.addTape(1, bits(1.0f));
        x.addCleaner(2, 50);
        int[][] rows = {{0, 0, 0, NONE, 0, 1, 0, 0}, {0, 1, 0, NONE, 0, bits(1.0f), 0, 0}, {1, 2, 0, NONE, 50, 0, 0, 0}};
        for (int item = 0; item < rows.length; item++) {
            for (int what = 0; what < 8; what++) {
                due("item(" + item + ", " + what + ")", x.item(item, what), rows[item][what]);
            }
        }
        due("a tape with lost reads: item(5, 6)", busy().item(5, 6), 3);
        due("its reads: item(5, 4)", busy().item(5, 4), 3);
        due("another one's: item(4, 6)", busy().item(4, 6), 0);
    }

    private void jobsWithAnItem() {
        title("21: jobs of the kinds 0 and 2 that wait for it or are under way with it");
        Robot x = new Robot();
        x.addDrive(0);
        x.addTape(1, 0);
        x.addTape(2, 0);
        x.addCleaner(3, 9);
        dueJobsWith(x, 0, 0, 0);
        x.read(0);
        dueJobsWith(x, 1, 0, 0);
        x.move(0, 8);
        dueJobsWith(x, 2, 0, 0);
        x.move(2, 9);
        dueJobsWith(x, 2, 0, 1);
        x.putOff(2, 9999);
        dueJobsWith(x, 2, 0, 1);
        x.withdraw(2);
        dueJobsWith(x, 2, 0, 0);
        title("21: and a job to clean that is under way with it");
        x.clean(0);
        dueJobsWith(x, 2, 0, 0);
        x.tick(1);
        due("the job to read is under way: count(3)", x.count(3), 0);
        dueJobsWith(x, 2, 0, 0);
        x.tick(7);
        dueJobsWith(x, 1, 0, 0);
        for (int step = 0; step < 8; step++) {
            dueJobsWith(x, 1, 0, step == 0 ? 0 : 1);
            x.tick(1);
        }
        due("the job to clean is done: job(3, 3)", x.job(3, 3), 2);
        dueJobsWith(x, 1, 0, 0);
        x.tick(3);
        dueJobsWith(x, 1, 0, 0);
        x.tick(1);
        dueJobsWith(x, 0, 0, 0);
        title("21: a job that is lost is under way with it until its last step");
        Robot y = dusty(4, 0);
        y.addTape(10, bits(1.0f));
        y.read(4);
        y.tick(9);
        due("job(4, 9)", y.job(4, 9), 2);
        due("item(4, 7)", y.item(4, 7), 1);
        y.tick(1);
        due("item(4, 7)", y.item(4, 7), 0);
    }

    private void dueJobsWith(Robot x, int... jobs) {
        for (int item = 0; item < jobs.length; item++) {
            due("item(" + item + ", 7)", x.item(item, 7), jobs[item]);
        }
    }

    private void homes() {
        title("22: the item whose home it is; UNKNOWN; NONE if there is none");
        dueNumbers("homeOf", new Robot(), 24, Robot::homeOf);
        dueNumbers("homeOf", busy(), 24, Robot::homeOf);
        Robot x = new Robot();
        x.addDrive(11);
        x.addCleaner(23, 1);
        x.addTape(0, 0);
        due("homeOf(0)", x.homeOf(0), 1);
        due("homeOf(23)", x.homeOf(23), 0);
        for (int slot = 1; slot < 23; slot++) {
            due("homeOf(" + slot + ")", x.homeOf(slot), NONE);
        }
        due("the cleaner is in the hand: homeOf(20)", busy().homeOf(20), 6);
    }

    private void numbersOfDrives() {
        title("23: UNKNOWN; BAD_VALUE");
        Robot x = new Robot();
        for (int drives = 0; drives <= 4; drives++) {
            dueNumbers("drive", x.again(), drives, (r, drive) -> r.drive(drive, 0));
            due("both are wrong", x.drive(drives, -1), UNKNOWN);
            due("both are wrong", x.drive(-1, 6), UNKNOWN);
            x.addDrive(drives);
        }
        title("23: what is 0 to 5");
        dueWhat("drive 0", busy(), 0, 5, (r, what) -> r.drive(0, what));
        dueWhat("drive 1", busy(), 0, 5, (r, what) -> r.drive(1, what));
    }

    private void whatOfADrive() {
        title("23: reads that were done in it (lost ones, too), lost ones, its cleanings, the item that is in it");
        Robot x = dusty(4, 0);
        x.addDrive(1);
        x.addTape(10, bits(1.0f));
        x.addCleaner(12, 2);
        x.setCeiling(1, bits(1.0f));
        x.read(4);
        x.tick(8);
        x.read(4);
        x.tick(8);
        due("of 1 with the dust 2.125f no more is read", x.dust(1), 1.0f + 1.125f);
        x.read(4);
        x.tick(10);
        x.clean(0);
        x.tick(4);
        int[][] rows = {{0, 7, 3, 0, 5, 1}, {1, 2, 0, 0, NONE, 1}};
        for (int drive = 0; drive < 2; drive++) {
            for (int what = 0; what < 6; what++) {
                due("drive(" + drive + ", " + what + ")", x.drive(drive, what), rows[drive][what]);
            }
        }
        x.tick(1);
        due("drive(0, 3)", x.drive(0, 3), 1);
        due("drive(0, 4)", x.drive(0, 4), 5);
        x.tick(1);
        due("drive(0, 4)", x.drive(0, 4), NONE);
        title("23: the item 0 in a drive");
        Robot y = dusty(1, 0);
        y.read(0);
        y.tick(4);
        due("drive(0, 4)", y.drive(0, 4), 0);
    }

    private void moreThanItsCeiling() {
        title("23: whether its dust is more than its ceiling");
        Robot x = dusty(3, 0);
        x.setCeiling(0, bits(3.0f) + 1);
        due("below it: drive(0, 5)", x.drive(0, 5), 0);
        x.setCeiling(0, bits(3.0f));
        due("at it: drive(0, 5)", x.drive(0, 5), 0);
        x.setCeiling(0, bits(3.0f) - 1);
        due("above it: drive(0, 5)", x.drive(0, 5), 1);
        Robot fresh = new Robot();
        fresh.addDrive(0);
        fresh.setCeiling(0, bits(1.0f));
        due("without dust: drive(0, 5)", fresh.drive(0, 5), 0);
    }

    // ---- promises 24 to 26

    private void amountsOfDrives() {
        title("24, 25: a NaN if there is no such drive");
        Robot x = new Robot();
        for (int drives = 0; drives <= 4; drives++) {
            for (int drive : new int[] {-1, drives, drives + 1, LEAST, MOST}) {
                due("dust(" + drive + ")", x.dust(drive), Float.NaN);
                due("ceiling(" + drive + ")", x.ceiling(drive), Float.NaN);
            }
            for (int drive = 0; drive < drives; drive++) {
                due("dust(" + drive + ")", x.dust(drive), 0.0f);
                due("ceiling(" + drive + ")", x.ceiling(drive), 8.0f);
            }
            x.addDrive(drives);
        }
        x.setCeiling(3, bits(500.0f));
        due("ceiling(3)", x.ceiling(3), 500.0f);
        due("ceiling(2)", x.ceiling(2), 8.0f);
        x.undo();
        due("ceiling(3)", x.ceiling(3), 8.0f);
    }

    private void amountsOfTheMeter() {
        title("26: a NaN if what is out of range");
        for (int what : new int[] {-1, 3, LEAST, MOST}) {
            due("meter(" + what + ")", busy().meter(what), Float.NaN);
            due("meter(" + what + ")", new Robot().meter(what), Float.NaN);
        }
        Robot x = dusty(3, 0);
        x.addTape(20, 0);
        x.move(3, 20);
        x.tick(1);
        due("meter(0)", x.meter(0) > 7.5f ? 1 : 0, 1);
        due("meter(1)", x.meter(1), 1000.0f);
        due("meter(2)", x.meter(2), 3.0f);
        due("no drive: meter(2)", new Robot().meter(2), 0.0f);
    }

    /** Three drives with these dusts: each is 1.0f, or 1.0f that was cleaned eight times, which is half a last place of it. */
    private void dueSum(float want, boolean... cleaned) {
        Robot x = new Robot();
        x.setLimit(bits(1000.0f));
        x.addCleaner(12, 50);
        for (int drive = 0; drive < cleaned.length; drive++) {
            x.addDrive(drive);
            x.addTape(drive, 0);
            x.read(1 + drive);
        }
        x.tick(24);
        for (int drive = 0; drive < cleaned.length; drive++) {
            for (int turn = 0; cleaned[drive] && turn < 8; turn++) {
                x.clean(drive);
            }
        }
        x.tick(100);
        x.tick(100);
        for (int drive = 0; drive < cleaned.length; drive++) {
            due("dust(" + drive + ")", x.dust(drive), cleaned[drive] ? 1.0f / (1 << 24) : 1.0f);
        }
        due("meter(2)", x.meter(2), want);
    }

    private void addedByTheirNumbers() {
        title("26: the dust of all drives, added by their numbers to 0.0f");
        dueSum(1.0f, false, true, true);
        dueSum(1.0f, true, false, true);
        dueSum(Math.nextUp(1.0f), true, true, false);
        dueSum(2.0f, false, true, false);
    }

    // ---- promises 27 to 29

    private void numbersOfJobs() {
        title("27: UNKNOWN; BAD_VALUE");
        Robot x = new Robot();
        x.addTape(3, 0);
        for (int jobs = 0; jobs <= 30; jobs++) {
            dueNumbers("job", x.again(), jobs, (r, job) -> r.job(job, 0));
            due("both are wrong", x.job(jobs, -1), UNKNOWN);
            due("both are wrong", x.job(-1, 12), UNKNOWN);
            x.read(0);
        }
        title("27: what is 0 to 11");
        for (int job = 0; job < 12; job++) {
            int number = job;
            dueWhat("job " + job, busy(), 0, 11, (r, what) -> r.job(number, what));
        }
    }

    private void whatOfAJob() {
        title("27: its kind, its item or drive, the slot to which it moves the item (NONE if it is of another kind)");
        dueJob(busy(), 0, 0, 0, NONE, 2, 0, 7, NONE, 0, NONE, NONE, 0, 0);
        dueJob(busy(), 5, 0, 5, NONE, 3, 40, 49, NONE, 0, NONE, 2, 0, 0);
        dueJob(busy(), 7, 2, 5, 12, 0, NONE, NONE, NONE, NONE, NONE, NONE, 0, 0);
        dueJob(busy(), 8, 1, 1, NONE, 0, NONE, NONE, NONE, NONE, NONE, NONE, 0, 0);
        dueJob(busy(), 9, 0, 0, NONE, 4, NONE, 50, NONE, NONE, NONE, NONE, 0, 0);
        dueJob(busy(), 11, 1, 0, NONE, 1, 50, NONE, 2, 0, 6, NONE, 12, 0);
        Robot zero = new Robot();
        zero.addTape(5, 0);
        zero.move(0, 0);
        due("to the slot 0: job(0, 2)", zero.job(0, 2), 0);
    }

    private void whenAJobBeganAndEnded() {
        title("27: the tick in which it began, and in which it ended, or was withdrawn (NONE if it has not)");
        Robot x = new Robot();
        x.addTape(0, 0);
        x.move(0, 0);
        x.move(0, 0);
        x.move(0, 0);
        dueSpan(x, 0, 0, NONE, NONE);
        x.withdraw(2);
        dueSpan(x, 2, 4, NONE, 0);
        x.tick(1);
        dueSpan(x, 0, 1, 0, NONE);
        x.tick(2);
        dueSpan(x, 0, 1, 0, NONE);
        x.tick(1);
        dueSpan(x, 0, 2, 0, 3);
        dueSpan(x, 1, 0, NONE, NONE);
        x.tick(1);
        dueSpan(x, 1, 1, 4, NONE);
        x.tick(9);
        dueSpan(x, 1, 2, 4, 7);
        dueSpan(x, 2, 4, NONE, 0);
    }

    private void dueSpan(Robot x, int job, int state, int began, int ended) {
        due("job(" + job + ", 3)", x.job(job, 3), state);
        due("job(" + job + ", 4)", x.job(job, 4), began);
        due("job(" + job + ", 5)", x.job(job, 5), ended);
    }

    private void theStepOfAJob() {
        title("27: the number of its step, from 0 (NONE if it is not under way)");
        Robot x = new Robot();
        x.addTape(10, 0);
        x.setLimit(bits(1.0f));
        x.move(0, 9);
        due("it waits: job(0, 6)", x.job(0, 6), NONE);
        x.tick(1);
        due("it pleads in its first step: job(0, 6)", x.job(0, 6), 0);
        x.tick(5);
        due("job(0, 6)", x.job(0, 6), 0);
        x.setLimit(bits(20.0f));
        for (int step = 1; step < 4; step++) {
            x.tick(1);
            due("job(0, 6)", x.job(0, 6), step);
        }
        x.tick(1);
        due("it is done: job(0, 6)", x.job(0, 6), NONE);
        Robot y = dusty(1, 0);
        y.read(0);
        y.tick(7);
        due("the last step of a job to read: job(1, 6)", y.job(1, 6), 7);
        y.tick(1);
        due("job(1, 6)", y.job(1, 6), NONE);
        y.read(0);
        y.withdraw(2);
        due("withdrawn: job(2, 6)", y.job(2, 6), NONE);
    }

    private void whatAJobTakes() {
        title("27: the drive that it takes (NONE if it has not begun, or moves an item), and the cleaner likewise");
        Robot x = new Robot();
        x.setLimit(bits(1000.0f));
        x.addDrive(1);
        x.addTape(0, 0);
        x.addCleaner(3, 4);
        x.addCleaner(1, 1);
        x.read(0);
        x.clean(0);
        x.move(2, 7);
        for (int job = 0; job < 3; job++) {
            dueTaken(x, job, NONE, NONE);
        }
        for (int step = 0; step < 8; step++) {
            x.tick(1);
            dueTaken(x, 0, 0, NONE);
            dueTaken(x, 1, NONE, NONE);
        }
        for (int step = 0; step < 8; step++) {
            x.tick(1);
            dueTaken(x, 1, 0, 2);
        }
        for (int step = 0; step < 4; step++) {
            x.tick(1);
            dueTaken(x, 2, NONE, NONE);
        }
        dueTaken(x, 0, 0, NONE);
        dueTaken(x, 1, 0, 2);
        title("27: a job to clean that is withdrawn takes none");
        x.clean(0);
        x.withdraw(3);
        dueTaken(x, 3, NONE, NONE);
    }

    private void dueTaken(Robot x, int job, int drive, int cleaner) {
        due("job(" + job + ", 7)", x.job(job, 7), drive);
        due("job(" + job + ", 8)", x.job(job, 8), cleaner);
    }

    private void theReasonOfALoss() {
        title("27: the reason for which it was lost, told from the step at which it was lost on (NONE if it was not)");
        Robot x = dusty(2, 0);
        x.read(0);
        x.tick(4);
        x.setCeiling(0, bits(1.0f));
        due("ahead of the step: job(2, 9)", x.job(2, 9), NONE);
        for (int step = 4; step < 8; step++) {
            x.tick(1);
            due("job(2, 9)", x.job(2, 9), 1);
        }
        due("job(2, 3)", x.job(2, 3), 3);
        due("one that is done: job(1, 9)", x.job(1, 9), NONE);
        x.tick(20);
        due("job(2, 9)", x.job(2, 9), 1);
    }

    private void placesInTheOrder() {
        title("28: a place from 0; BAD_VALUE if it is negative; NONE if there are not so many");
        for (int jobs : new int[] {0, 1, 2, 29, 30}) {
            Robot x = new Robot();
            x.addTape(3, 0);
            for (int job = 0; job < jobs; job++) {
                x.move(0, 4);
            }
            for (int place = 0; place < jobs; place++) {
                due("order(" + place + ")", x.order(place), place);
            }
            for (int place : new int[] {jobs, jobs + 1, 30, 31, MOST}) {
                due("order(" + place + ")", x.order(place), NONE);
            }
            for (int place : new int[] {-1, -2, LEAST}) {
                due("order(" + place + ")", x.order(place), BAD_VALUE);
            }
        }
    }

    private void whatIsInTheOrder() {
        title("28: among all that wait (also those that are put off or cannot be begun)");
        Robot x = new Robot();
        x.addTape(3, 0);
        x.addTape(4, 0);
        x.move(0, 4);
        x.move(0, 5);
        x.move(0, 6);
        x.read(0);
        dueOrder(x, 3, 0, 1, 2);
        x.putOff(1, 9999);
        dueOrder(x, 3, 0, 1, 2);
        x.withdraw(0);
        dueOrder(x, 3, 1, 2);
        x.tick(1);
        due("under way: count(3)", x.count(3), 2);
        dueOrder(x, 3, 1);
        x.tick(3);
        due("done: job(2, 3)", x.job(2, 3), 2);
        dueOrder(x, 3, 1);
        x.withdraw(3);
        x.withdraw(1);
        dueOrder(x);
    }

    private void theNextJob() {
        title("29: the job that the robot would begin if it had none now; NONE if there is none");
        due("next()", new Robot().next(), NONE);
        Robot x = new Robot();
        x.addTape(3, 0);
        x.move(0, 5);
        due("next()", x.next(), 0);
        x.move(0, 6);
        x.tick(1);
        due("another one is under way: next()", x.next(), 1);
        x.putOff(1, 2);
        due("next()", x.next(), NONE);
        x.tick(1);
        due("next()", x.next(), 1);
        x.withdraw(1);
        due("next()", x.next(), NONE);
        x.tick(2);
        due("next()", x.next(), NONE);
    }

    // ---- promise 30

    private void slotsToGoTo() {
        title("30: UNKNOWN if there is no such slot");
        dueNumbers("mayGo", new Robot(), 24, Robot::mayGo);
        dueNumbers("mayGo", busy(), 24, Robot::mayGo);
        title("30: 0 if it may go at once");
        Robot x = new Robot();
        x.setLimit(bits(11.5f));
        due("at the limit: mayGo(23)", x.mayGo(23), 0);
        x.setLimit(bits(11.5f) - 1);
        due("above the limit: mayGo(23)", x.mayGo(23), NONE);
        due("mayGo(22)", x.mayGo(22), 0);
        due("where it is: mayGo(0)", x.mayGo(0), 0);
    }

    /** The robot may go as told when the limit is what is left of the meter then and the cost; a bit less, and later. */
    private void howManyTicksUntilThen() {
        title("30: the ticks that pass until then");
        Robot x = new Robot();
        x.setLimit(bits(1000.0f));
        x.addTape(20, 0);
        x.move(0, 20);
        x.tick(4);
        float meter = x.meter(0);
        due("meter(0)", meter, 10.0f * 0.75f * 0.75f * 0.75f * 0.75f);
        for (int ticks = 0; ticks < 12; ticks++) {
            for (int slot = 0; slot < 18; slot += 4) {
                float cost = (20 - slot) * 0.5f;
                Robot then = x.again();
                then.setLimit(bits(meter + cost));
                due("mayGo(" + slot + ")", then.mayGo(slot), ticks);
                then.setLimit(bits(meter + cost) - 1);
                due("a bit less: mayGo(" + slot + ")", then.mayGo(slot), ticks + 1);
                if (ticks > 0) {
                    then.tick(1);
                    due("a tick later: mayGo(" + slot + ")", then.mayGo(slot), ticks);
                }
            }
            meter = meter * 0.75f;
        }
    }

    private void withWhatIsInTheHand() {
        title("30: with what is in the hand");
        Robot x = new Robot();
        x.setLimit(bits(1000.0f));
        x.addTape(10, 0);
        x.addCleaner(9, 1);
        x.move(0, 10);
        x.tick(1);
        float meter = x.meter(0);
        x.setLimit(bits(meter + 4.0f));
        due("an empty hand: mayGo(18)", x.mayGo(18), 0);
        due("mayGo(2)", x.mayGo(2), 0);
        due("not at once: mayGo(19)", x.mayGo(19) == 0 ? 1 : 0, 0);
        x.tick(1);
        x.setLimit(bits(x.meter(0) + 4.0f));
        due("a tape: mayGo(14)", x.mayGo(14), 0);
        due("mayGo(6)", x.mayGo(6), 0);
        due("not at once: mayGo(15)", x.mayGo(15) == 0 ? 1 : 0, 0);
        x.setLimit(bits(1000.0f));
        x.tick(2);
        x.move(1, 9);
        x.tick(2);
        x.setLimit(bits(x.meter(0) + 6.0f));
        due("a cleaner: mayGo(13)", x.mayGo(13), 0);
        due("mayGo(5)", x.mayGo(5), 0);
        due("not at once: mayGo(14)", x.mayGo(14) == 0 ? 1 : 0, 0);
        due("where it is: mayGo(9)", x.mayGo(9), 0);
    }

    private void notWithinAHundred() {
        title("30: NONE if it may not within 100");
        Robot x = new Robot();
        x.setLimit(bits(1000.0f));
        x.addTape(23, 0);
        x.move(0, 13);
        x.tick(3);
        float meter = (11.5f * 0.75f * 0.75f + 10.0f) * 0.75f;
        due("meter(0)", x.meter(0), meter);
        x.setLimit(bits(1.0f));
        int ticks = 0;
        while (meter + 1.0f > 1.0f) {
            meter = meter * 0.75f;
            ticks++;
        }
        due("the cost is the limit", ticks > 60 && ticks < 100 ? 1 : 0, 1);
        due("mayGo(12)", x.mayGo(12), ticks);
        due("mayGo(14)", x.mayGo(14), ticks);
        due("the cost is more than the limit: mayGo(11)", x.mayGo(11), NONE);
        due("mayGo(15)", x.mayGo(15), NONE);
        due("mayGo(0)", x.mayGo(0), NONE);
        due("above the limit, where it is: mayGo(13)", x.mayGo(13), 0);
    }

    // ---- promise 31

    private void checksOfFate() {
        title("31: UNKNOWN; BAD_VALUE; NOT_POSSIBLE if it neither waits nor is under way; NONE");
        dueNumbers("fate", busy(), 12, (r, job) -> r.fate(job, 0));
        dueWhat("fate", busy(), 0, 2, (r, what) -> r.fate(11, what));
        dueWhat("fate", busy(), 0, 2, (r, what) -> r.fate(6, what));
        due("both are wrong: fate(12, 3)", busy().fate(12, 3), UNKNOWN);
        due("both are wrong: fate(-1, -1)", busy().fate(-1, -1), UNKNOWN);
        for (int job : new int[] {0, 5, 9}) {
            for (int what = 0; what < 3; what++) {
                dueNothing(busy(), NOT_POSSIBLE, fateOf(job, what));
            }
            dueNothing(busy(), BAD_VALUE, fateOf(job, -1));
            dueNothing(busy(), BAD_VALUE, fateOf(job, 3));
        }
        for (int what = 0; what < 3; what++) {
            dueNothing(busy(), "to a home that stays another one's: ", NONE, fateOf(10, what));
        }
    }

    private static Robot.Call fateOf(int job, int what) {
        return x -> x.fate(job, what);
    }

    private void upToFourHundredTicks() {
        title("31: up to 400 ticks pass; NONE if it does not end in them");
        Robot x = new Robot();
        x.addTape(3, 0);
        x.move(0, 5);
        dueFate(x, 0, 2, 4, 0);
        int[] until = {1, 395, 396, 397, 398, 9999};
        for (int tick : until) {
            Robot later = x.again();
            later.putOff(0, tick);
            if (tick <= 396) {
                dueFate(later, 0, 2, tick + 4, 0);
            } else {
                dueFate(later, 0, NONE, NONE, NONE);
            }
            later.tick(7);
            later.move(0, 6);
            later.withdraw(1);
            int left = tick == 1 ? NOT_POSSIBLE : tick + 4 - 7;
            due("seven ticks later: fate(0, 1)", later.fate(0, 1), left > 400 ? NONE : left);
        }
        title("31: of a job under way");
        for (int step = 1; step < 4; step++) {
            x.tick(1);
            dueFate(x, 0, 2, 4 - step, 0);
        }
        x.tick(1);
        due("fate(0, 0)", x.fate(0, 0), NOT_POSSIBLE);
    }

    private void beyondTheLastTick() {
        title("31: also beyond the tick 10000");
        Robot x = new Robot();
        x.addTape(3, 0);
        for (int hundreds = 0; hundreds < 99; hundreds++) {
            x.tick(100);
        }
        x.tick(98);
        x.move(0, 5);
        x.move(0, 7);
        x.putOff(0, 9999);
        due("count(0)", x.count(0), 9998);
        dueFate(x, 1, 2, 4, 0);
        dueFate(x, 0, 2, 8, 0);
        x.tick(2);
        due("count(0)", x.count(0), 10000);
        dueFate(x, 1, 2, 2, 0);
        dueFate(x, 0, 2, 6, 0);
        due("tick(1)", x.tick(1), NOT_POSSIBLE);
        due("count(0)", x.count(0), 10000);
        Robot never = new Robot();
        never.addTape(3, 0);
        never.move(0, 5);
        never.putOff(0, 9999);
        for (int hundreds = 0; hundreds < 96; hundreds++) {
            never.tick(100);
        }
        due("the tick 9999 is the last of 400: fate(0, 1)", never.fate(0, 1), NONE);
        never.tick(3);
        due("fate(0, 1)", never.fate(0, 1), 400);
    }

    private void pleasSoFar() {
        title("31: how often the robot will have pleaded for it, with the pleas so far");
        Robot x = new Robot();
        x.addTape(10, 0);
        x.setLimit(bits(4.0f));
        x.move(0, 11);
        dueFate(x, 0, NONE, NONE, NONE);
        x.tick(3);
        due("job(0, 10)", x.job(0, 10), 3);
        dueFate(x, 0, NONE, NONE, NONE);
        x.setLimit(bits(5.0f));
        dueFate(x, 0, 2, 4, 3);
        x.tick(1);
        x.setLimit(bits(2.0f));
        float meter = 5.0f * 0.75f * 0.75f;
        int pleas = 0;
        while (meter + 1.0f > 2.0f) {
            meter = meter * 0.75f;
            pleas++;
        }
        due("some pleas", pleas > 1 ? 1 : 0, 1);
        dueFate(x, 0, 2, 3 + pleas, 3 + pleas);
        x.tick(2);
        due("job(0, 10)", x.job(0, 10), 4);
        dueFate(x, 0, 2, 1 + pleas, 3 + pleas);
        due("pleas in the count are those so far: count(14)", x.count(14), 4);
    }

    private void theFateOfALostJob() {
        title("31: the state in which it ends (2 or 3)");
        Robot x = dusty(4, 0);
        x.addTape(10, bits(1.0f));
        x.addTape(11, bits(0.25f));
        x.read(4);
        x.read(5);
        dueFate(x, 4, 3, 10, 0);
        dueFate(x, 5, 2, 18, 0);
        x.tick(5);
        dueFate(x, 4, 3, 5, 0);
        x.setCeiling(0, bits(4.0f));
        dueFate(x, 4, 3, 4, 0);
        due("no drive is left for it: fate(5, 0)", x.fate(5, 0), NONE);
        x.setCeiling(0, bits(500.0f));
        x.tick(2);
        dueFate(x, 4, 3, 3, 0);
        due("it is not so yet: job(4, 3)", x.job(4, 3), 1);
        x.tick(3);
        due("fate(4, 0)", x.fate(4, 0), NOT_POSSIBLE);
        due("job(4, 3)", x.job(4, 3), 3);
    }

    private void theFateOfOneBehindOthers() {
        title("31: a job that waits for others");
        Robot x = new Robot();
        x.setLimit(bits(1000.0f));
        x.addTape(3, 0);
        x.addTape(4, 0);
        x.move(0, 4);
        x.move(1, 5);
        x.move(1, 4);
        dueFate(x, 1, 2, 4, 0);
        dueFate(x, 0, 2, 8, 0);
        dueFate(x, 2, NONE, NONE, NONE);
        Robot full = new Robot();
        full.setLimit(bits(1000.0f));
        full.addDrive(0);
        full.addTape(1, 0);
        full.setCeiling(0, bits(500.0f));
        for (int job = 0; job < 30; job++) {
            full.read(0);
        }
        dueFate(full, 29, 2, 240, 0);
        title("31: nothing else happens, and nothing is changed");
        for (int what = 0; what < 3; what++) {
            dueNothing(full, new int[] {2, 240, 0}[what], fateOf(29, what));
        }
    }

    // ---- promises 32 to 34

    private void sortsOfItems() {
        title("32: 1 if it takes it, otherwise 0; UNKNOWN (the item); BAD_VALUE");
        Robot x = new Robot();
        for (int item = 0; item < 18; item++) {
            dueNumbers("takes", x.again(), item, (r, number) -> r.takes(1, number));
            due("both are wrong", x.takes(2, item), UNKNOWN);
            due("both are wrong", x.takes(-1, -1), UNKNOWN);
            boolean tape = item % 2 == 0;
            due("its number", tape ? x.addTape(item, 0) : x.addCleaner(item, 1), item);
            due("takes(0, " + item + ")", x.takes(0, item), tape ? 1 : 0);
            due("takes(1, " + item + ")", x.takes(1, item), tape ? 0 : 1);
            for (int sort : new int[] {-1, 2, LEAST, MOST}) {
                due("takes(" + sort + ", " + item + ")", x.takes(sort, item), BAD_VALUE);
            }
        }
    }

    private void eventsThatAreKnown() {
        title("33: BAD_VALUE (back is negative, or what); NONE if there is none");
        for (int what : new int[] {-1, 4, LEAST, MOST}) {
            due("event(0, " + what + ")", busy().event(0, what), BAD_VALUE);
            due("there is none: event(10, " + what + ")", busy().event(10, what), BAD_VALUE);
            due("event(-1, " + what + ")", busy().event(-1, what), BAD_VALUE);
            due("no events: event(0, " + what + ")", new Robot().event(0, what), BAD_VALUE);
        }
        for (int what = 0; what < 4; what++) {
            due("event(-1, " + what + ")", busy().event(-1, what), BAD_VALUE);
            due("event(least, " + what + ")", busy().event(LEAST, what), BAD_VALUE);
            due("event(10, " + what + ")", busy().event(10, what), NONE);
            due("event(11, " + what + ")", busy().event(11, what), NONE);
            due("event(most, " + what + ")", busy().event(MOST, what), NONE);
            due("no events: event(0, " + what + ")", new Robot().event(0, what), NONE);
        }
        for (int back = 0; back < 10; back++) {
            dueEvent(busy(), back, 4, 11, NONE, 63 - back);
        }
    }

    private void theDriveOfAnEvent() {
        title("33: the drive (NONE for 0, 4, 5 and 6)");
        Robot x = dusty(4, 0);
        x.addDrive(1);
        x.addTape(10, bits(1.0f));
        x.addCleaner(2 + 9, 5);
        x.setCeiling(1, bits(1.0f));
        x.readJobsOf("r0;r4;c1");
        x.tick(1);
        dueEvent(x, 0, 0, 4, NONE, 32);
        x.tick(4);
        dueEvent(x, 0, 1, 4, 1, 36);
        x.tick(3);
        dueEvent(x, 0, 5, 4, NONE, 39);
        x.tick(1);
        dueEvent(x, 0, 0, 6, NONE, 40);
        x.tick(4);
        dueEvent(x, 0, 3, 6, 1, 44);
        x.tick(3);
        dueEvent(x, 0, 5, 6, NONE, 47);
        x.setCeiling(0, bits(500.0f));
        x.setCeiling(1, bits(1.0f));
        x.tick(8);
        dueEvent(x, 0, 5, 5, NONE, 55);
        dueEvent(x, 1, 1, 5, 1, 52);
        x.read(4);
        x.tick(4);
        x.tick(3);
        dueEvent(x, 0, 2, 7, 0, 62);
        x.tick(3);
        dueEvent(x, 0, 6, 7, NONE, 65);
        due("a plea", busy().event(0, 2), NONE);
    }

    private void whatIsCounted() {
        title("34: what is 0 to 19");
        dueWhat("count", new Robot(), 0, 19, Robot::count);
        dueWhat("count", busy(), 0, 19, Robot::count);
        int[] counts = {64, 20, 6, 11, 4, 1, 5, 1, 1, 7, 2, 8, 3, 0, 12, 60, 0, 2, 3, 7};
        for (int what = 0; what < counts.length; what++) {
            due("count(" + what + ")", busy().count(what), counts[what]);
        }
    }

    private void countsAtTheirEdges() {
        title("34: NONE if no item is in its hand, or if it has no job");
        Robot x = new Robot();
        x.addTape(0, 0);
        x.move(0, 0);
        int[] hands = {NONE, NONE, 0, 0, NONE};
        int[] jobs = {NONE, 0, 0, 0, NONE};
        for (int tick = 0; tick < 5; tick++) {
            due("count(2)", x.count(2), hands[tick]);
            due("count(3)", x.count(3), jobs[tick]);
            x.tick(1);
        }
        title("34: items, drives, and the uses of all cleaners, when there is no more room");
        Robot full = new Robot();
        for (int item = 0; item < 18; item++) {
            full.addCleaner(item, 50);
        }
        for (int drive = 0; drive < 4; drive++) {
            full.addDrive(drive);
        }
        due("count(9)", full.count(9), 18);
        due("count(10)", full.count(10), 4);
        due("count(17)", full.count(17), 900);
        due("count(18)", full.count(18), 4);
        title("34: jobs in each state");
        for (int job = 0; job < 30; job++) {
            full.clean(0);
        }
        due("count(4)", full.count(4), 30);
        full.withdraw(29);
        full.tick(1);
        int[] states = {28, 1, 0, 0, 1};
        for (int state = 0; state < 5; state++) {
            due("count(" + (4 + state) + ")", full.count(4 + state), states[state]);
        }
        full.tick(7);
        due("count(4)", full.count(4), 28);
        due("count(5)", full.count(5), 0);
        due("count(6)", full.count(6), 1);
        due("count(13)", full.count(13), 1);
        due("count(17)", full.count(17), 899);
    }

    // ---- questions

    private void questionsChangeNothing() {
        title("21 to 34: a question changes nothing");
        Robot.Call[] questions = {
            x -> x.item(5, 4), x -> x.item(18, 0), x -> x.item(0, 8), x -> x.homeOf(20), x -> x.homeOf(24),
            x -> x.homeOf(22), x -> x.drive(0, 1), x -> x.drive(2, 0), x -> x.drive(0, 6), x -> bits(x.dust(0)),
            x -> bits(x.dust(2)), x -> bits(x.ceiling(1)), x -> bits(x.ceiling(-1)), x -> bits(x.meter(2)),
            x -> bits(x.meter(3)), x -> x.job(11, 10), x -> x.job(12, 0), x -> x.job(0, 12), x -> x.order(0),
            x -> x.order(-1), x -> x.order(4), x -> x.next(), x -> x.mayGo(0), x -> x.mayGo(24), x -> x.fate(11, 0),
            x -> x.fate(6, 1), x -> x.fate(7, 2), x -> x.fate(10, 0), x -> x.fate(0, 0), x -> x.takes(0, 0),
            x -> x.takes(2, 0), x -> x.takes(0, 7), x -> x.event(0, 0), x -> x.event(10, 0), x -> x.event(-1, 0),
            x -> x.count(0), x -> x.count(20), x -> x.count(-1),
        };
        for (Robot.Call question : questions) {
            int answer = question.on(busy());
            dueNothing(busy(), answer, question);
            Robot x = new Robot();
            dueNothing(x, question.on(x.again()), question);
        }
    }
}
