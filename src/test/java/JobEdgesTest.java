/** The edges that the document names of jobs that are given, wait, are put off and are begun: promises 9 to 13. */
final class JobEdgesTest extends RobotChecks {
    public static void main(String[] args) {
        JobEdgesTest test = new JobEdgesTest();
        test.jobsThatAreGiven();
        test.jobsThatWait();
        test.jobsThatAreBegun();
        test.end();
    }

    private void jobsThatAreGiven() {
        thirtyJobsEver();
        whatCountsAsAJob();
        itemsToRead();
        checksOfRead();
        drivesToClean();
        checksOfClean();
        itemsAndSlotsToMove();
        checksOfMove();
        aJobAtFirst();
    }

    private void jobsThatWait() {
        ticksToPutOffTo();
        putOffSoAlready();
        checksOfPutOff();
        begunInTheTickAndNotAhead();
        putOffUntilATickThatIsThere();
        howManyWaitThen();
        checksOfWithdraw();
    }

    private void jobsThatAreBegun() {
        tooDustyDrivesComeFirst();
        theLowestOfTheFirstOnes();
        byTheOrderOfKinds();
        jobsThatAreSkipped();
        aDriveToReadWith();
        theDriveWithTheLeastDust();
        aCleanerWithAUse();
        theNearestCleaner();
        theSlotIsEmpty();
        aSlotThatBecomesEmpty();
    }

    /** Two tapes at 1 and 2, a cleaner at 3, drives at 0 and 23. */
    private static Robot furnished() {
        Robot x = new Robot();
        x.setLimit(bits(1000.0f));
        x.addDrive(0);
        x.addDrive(23);
        x.addTape(1, 0);
        x.addTape(2, 0);
        x.addCleaner(3, 50);
        return x;
    }

    private static Robot withJobs(int jobs) {
        Robot x = furnished();
        for (int job = 0; job < jobs; job++) {
            x.read(0);
        }
        return x;
    }

    // ---- promises 9 to 11

    private void thirtyJobsEver() {
        title("9, 10, 11: at most 30 jobs ever, numbered from 0");
        for (int jobs : new int[] {0, 1, 28, 29}) {
            dueAct(withJobs(jobs), jobs, x -> x.read(1));
            dueAct(withJobs(jobs), jobs, x -> x.clean(1));
            dueAct(withJobs(jobs), jobs, x -> x.move(2, 9));
        }
        Robot full = withJobs(30);
        dueNothing(full, FULL, x -> x.read(1));
        dueNothing(full, FULL, x -> x.clean(1));
        dueNothing(full, FULL, x -> x.move(2, 9));
        due("job(29, 0)", full.job(29, 0), 0);
        due("job(30, 0)", full.job(30, 0), UNKNOWN);
        full.undo();
        dueAct(full, "behind undo(): ", 29, x -> x.clean(0));
    }

    private void whatCountsAsAJob() {
        title("9, 10, 11: jobs that are withdrawn, done or lost are jobs, too; FULL if there have been 30");
        Robot x = dusty(2, 0);
        x.read(0);
        x.tick(4);
        x.setCeiling(0, bits(1.0f));
        x.tick(4);
        x.read(0);
        x.withdraw(3);
        due("done: count(6)", x.count(6), 2);
        due("lost: count(7)", x.count(7), 1);
        due("withdrawn: count(8)", x.count(8), 1);
        for (int job = 4; job < 29; job++) {
            due("read(1)", x.read(1), job);
        }
        dueAct(x, 29, r -> r.move(0, 0));
        dueNothing(x, FULL, r -> r.read(0));
        dueNothing(x, FULL, r -> r.clean(0));
        dueNothing(x, FULL, r -> r.move(0, 0));
    }

    private void itemsToRead() {
        title("9: the first and the last item");
        dueNothing(new Robot(), "no item: ", UNKNOWN, x -> x.read(0));
        Robot x = new Robot();
        for (int item = 0; item < 18; item++) {
            int next = item;
            dueNothing(x, UNKNOWN, r -> r.read(next));
            x.addTape(item, 0);
        }
        dueAct(x, 0, r -> r.read(0));
        dueAct(x, 1, r -> r.read(17));
        dueJob(x, 1, 0, 17, NONE, 0);
        for (int item : new int[] {-1, 18, LEAST, MOST}) {
            dueNothing(x, UNKNOWN, r -> r.read(item));
            dueNothing(busy(), UNKNOWN, r -> r.read(item));
        }
        title("9: without a drive a job is given, too");
        due("count(10)", x.count(10), 0);
        due("next()", x.next(), NONE);
    }

    private void checksOfRead() {
        title("9: UNKNOWN; NOT_POSSIBLE if it is a cleaner; FULL");
        Robot x = withJobs(30);
        dueNothing(x, UNKNOWN, r -> r.read(3));
        dueNothing(x, UNKNOWN, r -> r.read(-1));
        dueNothing(x, NOT_POSSIBLE, r -> r.read(2));
        dueNothing(x, FULL, r -> r.read(1));
        dueNothing(busy(), NOT_POSSIBLE, r -> r.read(6));
        dueNothing(withJobs(29), NOT_POSSIBLE, r -> r.read(2));
    }

    private void drivesToClean() {
        title("10: the first and the last drive");
        Robot x = new Robot();
        for (int drive = 0; drive < 4; drive++) {
            int next = drive;
            dueNothing(x, UNKNOWN, r -> r.clean(next));
            x.addDrive(drive);
            dueAct(x, drive, r -> r.clean(next));
            dueJob(x, drive, 1, drive, NONE, 0);
        }
        for (int drive : new int[] {-1, 4, LEAST, MOST}) {
            dueNothing(x, UNKNOWN, r -> r.clean(drive));
            dueNothing(busy(), UNKNOWN, r -> r.clean(drive));
        }
        title("10: without a cleaner a job is given, too");
        due("count(9)", x.count(9), 0);
        due("next()", x.next(), NONE);
    }

    private void checksOfClean() {
        title("10: UNKNOWN; FULL");
        Robot x = withJobs(30);
        dueNothing(x, UNKNOWN, r -> r.clean(-1));
        dueNothing(x, UNKNOWN, r -> r.clean(2));
        dueNothing(x, FULL, r -> r.clean(1));
    }

    private void itemsAndSlotsToMove() {
        title("11: the first and the last slot, the first and the last item");
        for (int slot = 0; slot < 24; slot++) {
            Robot x = furnished();
            due("move(0, " + slot + ")", x.move(0, slot), 0);
            due("job(0, 2)", x.job(0, 2), slot);
        }
        dueAct(furnished(), "its home: ", 0, x -> x.move(0, 1));
        dueAct(furnished(), "another one's home: ", 0, x -> x.move(0, 2));
        dueAct(furnished(), "a cleaner: ", 0, x -> x.move(2, 23));
        for (int slot : new int[] {-1, 24, LEAST, MOST}) {
            dueNothing(furnished(), UNKNOWN, x -> x.move(0, slot));
            dueNothing(busy(), UNKNOWN, x -> x.move(6, slot));
        }
        for (int item : new int[] {-1, 3, 18, LEAST, MOST}) {
            dueNothing(furnished(), UNKNOWN, x -> x.move(item, 0));
        }
        dueNothing(new Robot(), "no item: ", UNKNOWN, x -> x.move(0, 0));
        Robot full = new Robot();
        for (int item = 0; item < 18; item++) {
            full.addTape(item, 0);
        }
        dueAct(full, 0, x -> x.move(17, 23));
        dueNothing(full, UNKNOWN, x -> x.move(18, 23));
    }

    private void checksOfMove() {
        title("11: UNKNOWN (item or slot); FULL");
        Robot x = withJobs(30);
        dueNothing(x, UNKNOWN, r -> r.move(-1, -1));
        dueNothing(x, UNKNOWN, r -> r.move(3, 0));
        dueNothing(x, UNKNOWN, r -> r.move(0, 24));
        dueNothing(x, UNKNOWN, r -> r.move(0, -1));
        dueNothing(x, FULL, r -> r.move(2, 23));
    }

    private void aJobAtFirst() {
        title("9, 10, 11: what a job tells at first");
        Robot x = furnished();
        x.read(1);
        x.clean(1);
        x.move(2, 9);
        dueJob(x, 0, 0, 1, NONE, 0, NONE, NONE, NONE, NONE, NONE, NONE, 0, 0);
        dueJob(x, 1, 1, 1, NONE, 0, NONE, NONE, NONE, NONE, NONE, NONE, 0, 0);
        dueJob(x, 2, 2, 2, 9, 0, NONE, NONE, NONE, NONE, NONE, NONE, 0, 0);
    }

    // ---- promises 12 and 13

    private void ticksToPutOffTo() {
        title("12: a tick from 0 to 9999");
        for (int tick : new int[] {1, 2, 9998, 9999}) {
            Robot x = withJobs(2);
            dueAct(x, 0, r -> r.putOff(1, tick));
            due("job(1, 11)", x.job(1, 11), tick);
            due("job(0, 11)", x.job(0, 11), 0);
            dueAct(x, tick, r -> r.putOff(1, 0));
            due("job(1, 11)", x.job(1, 11), 0);
        }
        for (int tick : new int[] {-1, 10000, LEAST, MOST}) {
            dueNothing(withJobs(1), BAD_VALUE, x -> x.putOff(0, tick));
            dueNothing(busy(), BAD_VALUE, x -> x.putOff(6, tick));
        }
    }

    private void putOffSoAlready() {
        title("12: NONE if it is put off so already; 0 if it was not");
        Robot x = withJobs(2);
        dueNothing(x, NONE, r -> r.putOff(0, 0));
        dueAct(x, 0, r -> r.putOff(0, 7));
        dueNothing(x, NONE, r -> r.putOff(0, 7));
        dueAct(x.again(), 7, r -> r.putOff(0, 6));
        dueAct(x.again(), 7, r -> r.putOff(0, 8));
        dueNothing(x, "another job: ", NONE, r -> r.putOff(1, 0));
        dueAct(x, 7, r -> r.putOff(0, 0));
        dueNothing(x, NONE, r -> r.putOff(0, 0));
    }

    private void checksOfPutOff() {
        title("12: UNKNOWN; BAD_VALUE; NOT_POSSIBLE if it does not wait; NONE");
        for (int job : new int[] {-1, 12, 30, LEAST, MOST}) {
            dueNothing(busy(), UNKNOWN, x -> x.putOff(job, -1));
            dueNothing(busy(), UNKNOWN, x -> x.putOff(job, 0));
        }
        dueNothing(new Robot(), UNKNOWN, x -> x.putOff(0, 0));
        // In busy() the job 0 is done, 5 is lost, 9 is withdrawn, and 11 is under way.
        for (int job : new int[] {0, 5, 9, 11}) {
            dueNothing(busy(), BAD_VALUE, x -> x.putOff(job, -1));
            dueNothing(busy(), BAD_VALUE, x -> x.putOff(job, 10000));
            dueNothing(busy(), NOT_POSSIBLE, x -> x.putOff(job, 70));
            dueNothing(busy(), "so already: ", NOT_POSSIBLE, x -> x.putOff(job, 0));
        }
        dueNothing(withJobs(30), UNKNOWN, x -> x.putOff(30, 1));
        dueAct(withJobs(30), 0, x -> x.putOff(29, 1));
    }

    private void begunInTheTickAndNotAhead() {
        title("12: it is not begun in a tick with a lower number");
        for (int tick : new int[] {1, 2, 99, 100}) {
            Robot x = withJobs(1);
            x.putOff(0, tick);
            for (int passed = 0; passed < tick; passed++) {
                due("next()", x.next(), NONE);
                x.tick(1);
            }
            due("count(16)", x.count(16), tick);
            due("next()", x.next(), 0);
            x.tick(1);
            due("job(0, 4)", x.job(0, 4), tick);
            due("count(16)", x.count(16), tick);
        }
        Robot last = withJobs(1);
        last.putOff(0, 9999);
        for (int hundreds = 0; hundreds < 99; hundreds++) {
            last.tick(100);
        }
        last.tick(99);
        due("in the tick 9998: job(0, 3)", last.job(0, 3), 0);
        last.tick(1);
        due("in the tick 9999: job(0, 4)", last.job(0, 4), 9999);
        due("count(0)", last.count(0), 10000);
    }

    private void putOffUntilATickThatIsThere() {
        title("12: put off until the present tick, or one that has passed");
        Robot x = withJobs(0);
        x.tick(5);
        x.read(0);
        dueAct(x, 0, r -> r.putOff(0, 6));
        due("next()", x.next(), NONE);
        dueAct(x, 6, r -> r.putOff(0, 5));
        due("next()", x.next(), 0);
        dueAct(x, 5, r -> r.putOff(0, 4));
        due("next()", x.next(), 0);
        x.tick(1);
        due("job(0, 4)", x.job(0, 4), 5);
    }

    private void howManyWaitThen() {
        title("13: how many jobs wait then");
        Robot x = withJobs(30);
        dueAct(x, 29, r -> r.withdraw(29));
        dueAct(x, 28, r -> r.withdraw(0));
        x.tick(1);
        due("the job under way does not wait: count(3)", x.count(3), 1);
        dueAct(x, 26, r -> r.withdraw(2));
        dueJob(x, 2, 0, 0, NONE, 4, NONE, 1, NONE, NONE, NONE, NONE, 0, 0);
        for (int job = 3; job < 29; job++) {
            due("withdraw(" + job + ")", x.withdraw(job), 28 - job);
        }
        due("none waits: count(4)", x.count(4), 0);
        due("count(5)", x.count(5), 1);
        Robot one = withJobs(1);
        dueAct(one, "the last one that waits: ", 0, r -> r.withdraw(0));
        Robot putOff = withJobs(2);
        putOff.putOff(0, 9999);
        dueAct(putOff, "it is put off: ", 1, r -> r.withdraw(0));
    }

    private void checksOfWithdraw() {
        title("13: UNKNOWN; NOT_POSSIBLE if it does not wait");
        for (int job : new int[] {-1, 12, 30, LEAST, MOST}) {
            dueNothing(busy(), UNKNOWN, x -> x.withdraw(job));
        }
        dueNothing(new Robot(), UNKNOWN, x -> x.withdraw(0));
        for (int job : new int[] {0, 5, 9, 11}) {
            dueNothing(busy(), NOT_POSSIBLE, x -> x.withdraw(job));
        }
        dueAct(busy(), 3, x -> x.withdraw(6));
        dueNothing(withJobs(30), UNKNOWN, x -> x.withdraw(30));
    }

    // ---- which job is begun

    private void tooDustyDrivesComeFirst() {
        title("first come the jobs to clean a drive whose dust is more than its ceiling");
        Robot x = dusty(3, 0);
        x.addDrive(9);
        x.addCleaner(20, 9);
        x.move(0, 0);
        x.clean(1);
        x.clean(0);
        x.read(0);
        x.setCeiling(0, bits(3.0f));
        due("as much as its ceiling: drive(0, 5)", x.drive(0, 5), 0);
        dueOrder(x, 6, 4, 5, 3);
        due("next()", x.next(), 6);
        x.setCeiling(0, bits(3.0f) - 1);
        due("more than its ceiling: drive(0, 5)", x.drive(0, 5), 1);
        dueOrder(x, 5, 6, 4, 3);
        due("next()", x.next(), 5);
        for (int[] kinds : new int[][] {{2, 0}, {0, 2}, {2, 1}, {1, 0}}) {
            x.setOrder(kinds[0], kinds[1]);
            due("order(0)", x.order(0), 5);
            due("next()", x.next(), 5);
        }
        x.tick(1);
        due("it is begun: count(3)", x.count(3), 5);
    }

    private void theLowestOfTheFirstOnes() {
        title("of the first ones that with the lowest number is first");
        Robot x = new Robot();
        x.setLimit(bits(1000.0f));
        x.addDrive(0);
        x.addDrive(1);
        x.addTape(0, 0);
        x.addCleaner(23, 9);
        for (int job = 0; job < 7; job++) {
            x.read(0);
        }
        x.tick(56);
        due("the first drive has less dust", x.dust(0) < x.dust(1) ? 1 : 0, 0);
        due("dust(0)", x.dust(0), 1.0f + 1.25f + 1.5f + 1.75f);
        due("dust(1)", x.dust(1), 1.125f + 1.375f + 1.625f);
        x.clean(1);
        x.clean(0);
        x.clean(1);
        x.setCeiling(0, bits(1.0f));
        x.setCeiling(1, bits(1.0f));
        dueOrder(x, 7, 8, 9);
        x.setCeiling(1, bits(8.0f));
        dueOrder(x, 8, 7, 9);
        x.setCeiling(0, bits(8.0f));
        dueOrder(x, 7, 8, 9);
    }

    private void byTheOrderOfKinds() {
        title("then all others, by the order of kinds; of the same kind that with the lowest number is first");
        Robot x = furnished();
        int[] given = {2, 1, 0, 2, 1, 0};
        for (int kind : given) {
            int job = kind == 0 ? x.read(0) : kind == 1 ? x.clean(0) : x.move(1, 9);
            due("its kind", x.job(job, 0), kind);
        }
        dueOrder(x, 2, 5, 1, 4, 0, 3);
        int[][] orders = {{0, 2, 1}, {1, 0, 2}, {1, 2, 0}, {2, 0, 1}, {2, 1, 0}, {0, 1, 2}};
        for (int[] kinds : orders) {
            x.setOrder(kinds[0], kinds[1]);
            int[] row = new int[6];
            for (int rank = 0; rank < 3; rank++) {
                row[2 * rank] = 2 - kinds[rank];
                row[2 * rank + 1] = 5 - kinds[rank];
            }
            dueOrder(x, row);
            due("next()", x.next(), row[0]);
        }
    }

    private void jobsThatAreSkipped() {
        title("the first of these that waits, is not put off beyond the present tick, and can be begun");
        Robot x = furnished();
        x.move(0, 2);
        x.move(0, 9);
        x.move(0, 10);
        x.move(0, 11);
        x.putOff(2, 1);
        x.withdraw(1);
        due("next()", x.next(), 3);
        Robot later = x.again();
        later.tick(1);
        due("the first three are not begun: count(3)", later.count(3), 3);
        Robot then = x.again();
        then.withdraw(3);
        due("next()", then.next(), NONE);
        then.tick(1);
        due("count(16)", then.count(16), 1);
        due("next()", then.next(), 2);
        x.putOff(2, 0);
        due("next()", x.next(), 2);
        title("a later kind is begun if no job of an earlier one can be");
        Robot y = new Robot();
        y.addTape(1, 0);
        y.read(0);
        y.move(0, 1);
        dueOrder(y, 0, 1);
        due("next()", y.next(), 1);
        y.addDrive(5);
        due("next()", y.next(), 0);
    }

    private void aDriveToReadWith() {
        title("a job to read can be begun if there is a drive whose dust is not more than its ceiling");
        Robot x = new Robot();
        x.addTape(1, 0);
        x.read(0);
        due("no drive: next()", x.next(), NONE);
        x.tick(1);
        due("count(16)", x.count(16), 1);
        Robot y = dusty(2, 0);
        y.read(0);
        y.setCeiling(0, bits(2.0f));
        due("as much as its ceiling: next()", y.next(), 2);
        Robot begun = y.again();
        begun.tick(1);
        due("job(2, 7)", begun.job(2, 7), 0);
        y.setCeiling(0, bits(2.0f) - 1);
        due("more than its ceiling: next()", y.next(), NONE);
        Robot idle = y.again();
        idle.tick(1);
        due("count(3)", idle.count(3), NONE);
        y.addDrive(23);
        due("another drive: next()", y.next(), 2);
        y.tick(1);
        due("job(2, 7)", y.job(2, 7), 1);
    }

    private void theDriveWithTheLeastDust() {
        title("it takes the one of these with the least dust, of several the one with the lowest number");
        Robot x = new Robot();
        x.setLimit(bits(1000.0f));
        x.addDrive(23);
        x.addDrive(2);
        x.addDrive(1);
        x.addDrive(0);
        for (int tape = 0; tape < 10; tape++) {
            x.addTape(tape, 0);
            x.read(tape);
        }
        int[] taken = {0, 1, 2, 3, 0, 1};
        x.tick(48);
        for (int job = 0; job < taken.length; job++) {
            due("job(" + job + ", 7)", x.job(job, 7), taken[job]);
        }
        // The dusts are 2, 2, 1 and 1 now.
        Robot third = x.again();
        third.tick(1);
        due("of 2 and 3 the lower one: job(6, 7)", third.job(6, 7), 2);
        x.tick(16);
        due("job(6, 7)", x.job(6, 7), 2);
        due("job(7, 7)", x.job(7, 7), 3);
        due("all have the dust 2: dust(3)", x.dust(3), 2.0f);
        x.setCeiling(0, bits(1.5f));
        x.setCeiling(1, bits(2.0f) - 1);
        x.tick(1);
        due("the lowest one that is not above its ceiling: job(8, 7)", x.job(8, 7), 2);
        x.tick(7);
        x.setCeiling(3, bits(1.0f));
        x.setCeiling(1, bits(2.0f));
        x.tick(1);
        due("job(9, 7)", x.job(9, 7), 1);
        title("a drive with less dust that is above its ceiling is not taken");
        Robot y = dusty(3, 0);
        y.addDrive(1);
        y.read(0);
        y.tick(8);
        due("dust(1)", y.dust(1), 1.125f);
        y.setCeiling(1, bits(1.0f));
        y.read(0);
        y.tick(1);
        due("job(4, 7)", y.job(4, 7), 0);
    }

    private void aCleanerWithAUse() {
        title("a job to clean can be begun if there is a cleaner with a use");
        Robot x = new Robot();
        x.addDrive(0);
        x.addTape(0, 0);
        x.clean(0);
        due("no cleaner: next()", x.next(), NONE);
        x.addCleaner(1, 1);
        due("one use: next()", x.next(), 0);
        x.clean(0);
        x.tick(8);
        due("item(1, 4)", x.item(1, 4), 0);
        due("none left: next()", x.next(), NONE);
        x.tick(1);
        due("count(16)", x.count(16), 1);
        x.refill(1, 1);
        due("one again: next()", x.next(), 1);
        x.tick(8);
        due("job(1, 3)", x.job(1, 3), 2);
        due("dust(0)", x.dust(0), 0.0f);
    }

    private void theNearestCleaner() {
        title("it takes the one whose home is nearest to where the robot is, of several the lowest number");
        dueCleaner(0, 1, 23, 0, 1);
        dueCleaner(0, 1, 23, 22);
        dueCleaner(23, 1, 0, 23);
        dueCleaner(10, 0, 12, 8);
        dueCleaner(10, 0, 8, 12);
        dueCleaner(10, 1, 13, 8, 12);
        dueCleaner(10, 1, 8, 11, 9);
        dueCleaner(10, 1, 23, 0, 21);
        title("a cleaner without a use is not taken");
        Robot x = new Robot();
        x.setLimit(bits(1000.0f));
        x.addDrive(5);
        x.addCleaner(5, 1);
        x.addCleaner(20, 1);
        x.clean(0);
        x.clean(0);
        x.clean(0);
        x.tick(24);
        due("job(0, 8)", x.job(0, 8), 0);
        due("job(1, 8)", x.job(1, 8), 1);
        due("job(2, 8)", x.job(2, 8), NONE);
        due("job(2, 3)", x.job(2, 3), 0);
    }

    /** A robot beside the slot, with cleaners that have these homes, takes this one. */
    private void dueCleaner(int slot, int taken, int... homes) {
        Robot x = new Robot();
        x.setLimit(bits(1000.0f));
        x.addDrive(14);
        for (int home : homes) {
            x.addCleaner(home, 9);
        }
        int there = x.homeOf(slot);
        x.move(there == NONE ? x.addTape(slot, 0) : there, slot);
        x.tick(4);
        due("count(1)", x.count(1), slot);
        x.clean(0);
        x.tick(1);
        due("job(1, 8)", x.job(1, 8), taken);
    }

    private void theSlotIsEmpty() {
        title("a job to move can be begun if the slot is empty (it may be the home of the item itself)");
        Robot x = furnished();
        x.move(0, 1);
        due("its own home: next()", x.next(), 0);
        x.tick(4);
        due("job(0, 3)", x.job(0, 3), 2);
        due("homeOf(1)", x.homeOf(1), 0);
        x.move(0, 2);
        due("a tape's home: next()", x.next(), NONE);
        x.move(0, 3);
        due("a cleaner's home: next()", x.next(), NONE);
        x.move(0, 4);
        due("no item's home: next()", x.next(), 3);
        x.move(0, 0);
        x.withdraw(3);
        due("beside a drive: next()", x.next(), 4);
        x.tick(4);
        due("homeOf(0)", x.homeOf(0), 0);
    }

    private void aSlotThatBecomesEmpty() {
        title("a slot that becomes empty, and one that does so no more");
        Robot x = furnished();
        x.move(0, 2);
        x.move(1, 9);
        x.move(2, 9);
        due("next()", x.next(), 1);
        x.tick(4);
        due("job(1, 3)", x.job(1, 3), 2);
        due("the first one has room now: next()", x.next(), 0);
        x.tick(4);
        due("homeOf(2)", x.homeOf(2), 0);
        due("homeOf(1)", x.homeOf(1), NONE);
        due("9 is not empty: next()", x.next(), NONE);
        x.tick(1);
        due("count(16)", x.count(16), 1);
    }
}
