/** The edges that the document names of ticks, the meter, drives and reads: promise 14. */
final class TickEdgesTest extends RobotChecks {
    public static void main(String[] args) {
        TickEdgesTest test = new TickEdgesTest();
        test.ticks();
        test.theMeter();
        test.reads();
        test.theLog();
        test.end();
    }

    private void ticks() {
        oneToAHundredTicks();
        theLastTick();
        checksOfTick();
        howManyJobsAreDone();
        lostOnesDoNotCount();
        ticksWithoutAJob();
        oneJobBehindTheOther();
        itIsItsHomeThen();
    }

    private void theMeter() {
        goingWithAnEmptyHand();
        goingWithATape();
        goingWithACleaner();
        goingBack();
        goingNoSlots();
        theSumIsAFloat();
        aPlea();
        theMeterFalls();
    }

    private void reads() {
        dustUpToTheCeiling();
        theBorderOfLostReads();
        theDustAheadOfARead();
        readsSoFar();
        theOrderOfTheSums();
        theThirdLostRead();
        tooDustyBetweenLostReads();
        lostReadsOfThisJob();
        aLostJobGoesOn();
        aCleaningAndItsUse();
    }

    private void theLog() {
        tenEvents();
        eventsOfAJob();
    }

    // ---- ticks

    /** A robot that has nothing, in this tick. */
    private static Robot inTick(int tick) {
        Robot x = new Robot();
        for (int passed = 0; passed + 100 <= tick; passed += 100) {
            x.tick(100);
        }
        if (tick % 100 > 0) {
            x.tick(tick % 100);
        }
        return x;
    }

    private void oneToAHundredTicks() {
        title("14: 1 to 100 ticks");
        for (int ticks : new int[] {1, 2, 99, 100}) {
            Robot x = new Robot();
            dueAct(x, 0, r -> r.tick(ticks));
            due("count(0)", x.count(0), ticks);
        }
        dueAct(busy(), 4, x -> x.tick(100));
        for (int ticks : new int[] {0, 101, -1, -100, LEAST, MOST}) {
            dueNothing(new Robot(), BAD_VALUE, x -> x.tick(ticks));
            dueNothing(busy(), BAD_VALUE, x -> x.tick(ticks));
        }
    }

    private void theLastTick() {
        title("14: NOT_POSSIBLE if the number of the tick would become more than 10000");
        dueAct(inTick(9900), 0, x -> x.tick(100));
        dueNothing(inTick(9901), NOT_POSSIBLE, x -> x.tick(100));
        dueAct(inTick(9901), 0, x -> x.tick(99));
        dueAct(inTick(9999), 0, x -> x.tick(1));
        dueNothing(inTick(9999), NOT_POSSIBLE, x -> x.tick(2));
        Robot end = inTick(10000);
        due("count(0)", end.count(0), 10000);
        dueNothing(end, NOT_POSSIBLE, x -> x.tick(1));
        dueNothing(end, NOT_POSSIBLE, x -> x.tick(100));
        dueAct(end, "things may be added there: ", 0, x -> x.addTape(3, 0));
        dueNothing(end, NOT_POSSIBLE, x -> x.tick(1));
        due("behind undo() of a tick: undo()", end.undo(), 3);
        due("undo()", end.undo(), 2);
        due("count(0)", end.count(0), 9900);
        due("tick(100)", end.tick(100), 0);
    }

    private void checksOfTick() {
        title("14: BAD_VALUE; NOT_POSSIBLE");
        Robot end = inTick(10000);
        for (int ticks : new int[] {0, 101, -1, LEAST, MOST}) {
            dueNothing(end, BAD_VALUE, x -> x.tick(ticks));
        }
    }

    /** A tape at 3, and jobs to move it to 4, 5, and so on. */
    private static Robot withMoves(int moves) {
        Robot x = new Robot();
        x.addTape(3, 0);
        for (int job = 0; job < moves; job++) {
            x.move(0, 4 + job % 10);
        }
        return x;
    }

    private void howManyJobsAreDone() {
        title("14: how many jobs are done in them");
        dueAct(withMoves(0), 0, x -> x.tick(100));
        dueAct(withMoves(1), 0, x -> x.tick(3));
        dueAct(withMoves(1), 1, x -> x.tick(4));
        dueAct(withMoves(1), 1, x -> x.tick(100));
        dueAct(withMoves(2), 1, x -> x.tick(7));
        dueAct(withMoves(2), 2, x -> x.tick(8));
        dueAct(withMoves(30), 24, x -> x.tick(99));
        dueAct(withMoves(30), 25, x -> x.tick(100));
        Robot x = withMoves(1);
        x.tick(3);
        dueAct(x, "its last step: ", 1, r -> r.tick(1));
        dueAct(x, "it is done already: ", 0, r -> r.tick(1));
    }

    private void lostOnesDoNotCount() {
        title("14: lost ones do not count");
        Robot x = dusty(4, 0);
        x.addTape(10, bits(1.0f));
        x.read(4);
        x.tick(9);
        due("job(4, 3)", x.job(4, 3), 1);
        dueAct(x.again(), 0, r -> r.tick(1));
        x.move(0, 0);
        dueAct(x, "a lost one and one that is done: ", 1, r -> r.tick(5));
        due("count(7)", x.count(7), 1);
        due("count(6)", x.count(6), 5);
    }

    private void ticksWithoutAJob() {
        title("1. if the robot has no job, it begins one, if there is one to begin");
        Robot x = new Robot();
        x.tick(3);
        due("ticks without a job: count(16)", x.count(16), 3);
        x.addTape(5, 0);
        x.move(0, 6);
        x.tick(4);
        due("the ticks of the job are none: count(16)", x.count(16), 3);
        due("job(0, 4)", x.job(0, 4), 3);
        due("job(0, 5)", x.job(0, 5), 6);
        x.tick(1);
        due("count(16)", x.count(16), 4);
        x.read(0);
        x.clean(0);
        x.tick(1);
        due("a job that can't be begun: count(16)", x.count(16), 5);
        due("count(3)", x.count(3), NONE);
        due("a robot that pleads has a job: count(16)", busy().count(16), 0);
    }

    private void oneJobBehindTheOther() {
        title("it begins a job and does its first step in one tick, and the next job in the tick behind the last step");
        Robot x = withMoves(2);
        x.tick(1);
        due("count(3)", x.count(3), 0);
        due("job(0, 6)", x.job(0, 6), 1);
        due("count(1)", x.count(1), 3);
        x.tick(3);
        due("count(3)", x.count(3), NONE);
        due("job(0, 5)", x.job(0, 5), 3);
        due("job(1, 3)", x.job(1, 3), 0);
        x.tick(1);
        due("count(3)", x.count(3), 1);
        due("job(1, 4)", x.job(1, 4), 4);
        due("job(1, 6)", x.job(1, 6), 1);
        due("count(16)", x.count(16), 0);
    }

    private void itIsItsHomeThen() {
        title("put it there (it is its home then)");
        Robot x = withMoves(1);
        for (int step = 0; step < 4; step++) {
            due("homeOf(3)", x.homeOf(3), 0);
            due("homeOf(4)", x.homeOf(4), NONE);
            due("item(0, 1)", x.item(0, 1), 3);
            x.tick(1);
        }
        due("homeOf(3)", x.homeOf(3), NONE);
        due("homeOf(4)", x.homeOf(4), 0);
        due("item(0, 1)", x.item(0, 1), 4);
    }

    // ---- the meter

    /** The next step goes so far at this cost: it does so if the limit is meter + cost, and pleads if it is a bit less. */
    private void dueGo(String words, Robot x, int from, int to, float cost) {
        float meter = x.again().meter(0);
        float reach = meter + cost;
        int step = x.again().job(0, 6);
        int gone = x.again().count(15);
        for (int limit : new int[] {bits(reach), bits(reach) + 1}) {
            Robot may = x.again();
            due(words + "setLimit", may.setLimit(limit), 1);
            may.tick(1);
            due(words + "it goes: count(1)", may.count(1), to);
            due(words + "count(14)", may.count(14), 0);
            due(words + "count(15)", may.count(15), gone + Math.abs(to - from));
            due(words + "job(0, 6)", may.job(0, 6), step == NONE ? 1 : step + 1);
            due(words + "meter(0)", may.meter(0), reach * 0.75f);
        }
        Robot not = x.again();
        due(words + "setLimit", not.setLimit(bits(reach) - 1), 1);
        not.tick(1);
        due(words + "it pleads: count(1)", not.count(1), from);
        due(words + "count(14)", not.count(14), 1);
        due(words + "count(15)", not.count(15), gone);
        due(words + "job(0, 6)", not.job(0, 6), step == NONE ? 0 : step);
        due(words + "meter(0)", not.meter(0), meter * 0.75f);
    }

    /** A drive at 12, a tape at 5, a cleaner at 9. */
    private static Robot furnished() {
        Robot x = new Robot();
        x.setLimit(bits(1000.0f));
        x.addDrive(12);
        x.addTape(5, 0);
        x.addCleaner(9, 3);
        return x;
    }

    private void goingWithAnEmptyHand() {
        title("to go costs d * load, and 0.5f is the load of an empty hand; the robot may go if it is not more");
        Robot reading = furnished();
        reading.read(0);
        dueGo("to a tape that is read: ", reading, 0, 5, 2.5f);
        Robot cleaning = furnished();
        cleaning.clean(0);
        dueGo("to a cleaner: ", cleaning, 0, 9, 4.5f);
        Robot moving = furnished();
        moving.move(1, 3);
        dueGo("to a cleaner that is moved: ", moving, 0, 9, 4.5f);
        Robot far = new Robot();
        far.addTape(23, 0);
        far.move(0, 0);
        dueGo("to the last slot: ", far, 0, 23, 11.5f);
    }

    private void goingWithATape() {
        title("1.0f is the load of a tape");
        Robot reading = furnished();
        reading.read(0);
        reading.tick(2);
        dueGo("to the drive: ", reading, 5, 12, 7.0f);
        Robot moving = furnished();
        moving.move(0, 4);
        moving.tick(2);
        dueGo("to the slot: ", moving, 5, 4, 1.0f);
    }

    private void goingWithACleaner() {
        title("1.5f is the load of a cleaner");
        Robot cleaning = furnished();
        cleaning.clean(0);
        cleaning.tick(2);
        dueGo("to the drive: ", cleaning, 9, 12, 4.5f);
        Robot moving = furnished();
        moving.move(1, 0);
        moving.tick(2);
        dueGo("to the slot: ", moving, 9, 0, 13.5f);
    }

    private void goingBack() {
        title("to go to the home: the same loads");
        Robot reading = furnished();
        reading.read(0);
        reading.tick(6);
        dueGo("with the tape: ", reading, 12, 5, 7.0f);
        Robot cleaning = furnished();
        cleaning.clean(0);
        cleaning.tick(6);
        dueGo("with the cleaner: ", cleaning, 12, 9, 4.5f);
    }

    private void goingNoSlots() {
        title("to go 0 slots costs nothing and is always allowed");
        Robot x = new Robot();
        x.setLimit(bits(1000.0f));
        x.addTape(23, 0);
        x.addDrive(23);
        x.move(0, 23);
        x.tick(4);
        x.setLimit(bits(1.0f));
        due("the meter is above its limit", x.meter(0) > x.meter(1) ? 1 : 0, 1);
        float meter = x.meter(0);
        x.move(0, 23);
        x.read(0);
        due("mayGo(23)", x.mayGo(23), 0);
        due("tick(12)", x.tick(12), 2);
        for (int tick = 0; tick < 12; tick++) {
            meter = meter * 0.75f;
        }
        due("meter(0)", x.meter(0), meter);
        due("count(14)", x.count(14), 0);
        due("count(15)", x.count(15), 23);
    }

    private void theSumIsAFloat() {
        title("meter + cost is done in floats: it may be the limit, as the rest of the meter is rounded off");
        for (int slot : new int[] {3, 7, 10, 23}) {
            Robot x = new Robot();
            float cost = slot * 0.5f;
            x.addTape(slot, 0);
            x.move(0, slot - (slot + 1) / 2);
            x.setLimit(bits((slot + 1) / 2));
            x.tick(2);
            float meter = cost * 0.75f * 0.75f;
            due("meter(0)", x.meter(0), meter);
            int pleas = 0;
            float limit = (float) ((slot + 1) / 2);
            while (pleas < 90 && meter + limit > limit) {
                meter = meter * 0.75f;
                pleas++;
            }
            due("many pleas", pleas > 40 && pleas < 90 ? 1 : 0, 1);
            due("fate(0, 2)", x.fate(0, 2), pleas);
            due("fate(0, 1)", x.fate(0, 1), pleas + 2);
            x.tick(pleas);
            due("count(14)", x.count(14), pleas);
            due("job(0, 6)", x.job(0, 6), 2);
            due("mayGo", x.mayGo(slot / 2), 0);
            x.tick(1);
            due("count(14)", x.count(14), pleas);
            due("job(0, 6)", x.job(0, 6), 3);
        }
    }

    private void aPlea() {
        title("the robot pleads (the step comes again in the next tick)");
        Robot x = furnished();
        x.setLimit(bits(6.5f));
        x.read(0);
        x.tick(2);
        due("the cost alone is more than the limit: tick(9)", x.tick(9), 0);
        due("job(0, 10)", x.job(0, 10), 9);
        due("count(14)", x.count(14), 9);
        due("job(0, 6)", x.job(0, 6), 2);
        dueEvent(x, 0, 4, 0, NONE, 10);
        dueEvent(x, 8, 4, 0, NONE, 2);
        dueEvent(x, 9, 0, 0, NONE, 0);
        due("fate(0, 0)", x.fate(0, 0), NONE);
        x.setLimit(bits(7.0f) + 1);
        float meter = x.meter(0);
        int more = 0;
        while (more < 90 && meter + 7.0f > x.again().meter(1)) {
            meter = meter * 0.75f;
            more++;
        }
        x.tick(more);
        due("count(1)", x.count(1), 5);
        x.tick(1);
        due("count(1)", x.count(1), 12);
        due("job(0, 10)", x.job(0, 10), 9 + more);
        title("pleas of another job are told by themselves");
        Robot y = furnished();
        y.setLimit(bits(2.0f));
        y.move(0, 5);
        y.move(1, 9);
        y.tick(5);
        y.setLimit(bits(1000.0f));
        y.tick(4);
        y.setLimit(bits(1.0f));
        y.tick(3);
        due("job(0, 10)", y.job(0, 10), 5);
        due("job(1, 10)", y.job(1, 10), 3);
        due("count(14)", y.count(14), 8);
    }

    private void theMeterFalls() {
        title("3. the meter becomes meter * 0.75f, in floats, in each tick");
        Robot x = new Robot();
        x.addTape(23, 0);
        x.move(0, 23);
        x.tick(1);
        float meter = 11.5f * 0.75f;
        for (int tick = 0; tick < 100; tick++) {
            due("meter(0)", x.meter(0), meter);
            x.tick(1);
            meter = meter * 0.75f;
        }
        for (int hundred = 0; hundred < 4; hundred++) {
            x.tick(100);
            for (int tick = 0; tick < 100; tick++) {
                meter = meter * 0.75f;
            }
            due("meter(0)", x.meter(0), meter);
        }
        due("the least one but one, which goes on as it is", x.meter(0), 2.0f * Float.MIN_VALUE);
        Robot still = new Robot();
        still.tick(100);
        due("nothing stays nothing: meter(0)", still.meter(0), 0.0f);
    }

    // ---- reads

    private void dustUpToTheCeiling() {
        title("a read is done only if the dust of the drive is not more than its ceiling");
        for (int more = -1; more <= 1; more++) {
            Robot x = dusty(3, 0);
            x.read(0);
            x.tick(4);
            x.setCeiling(0, bits(3.0f) + more);
            x.tick(1);
            boolean done = more >= 0;
            due("job(3, 6)", x.job(3, 6), 5);
            due("job(3, 9)", x.job(3, 9), done ? NONE : 1);
            due("drive(0, 1)", x.drive(0, 1), done ? 4 : 3);
            due("dust(0)", x.dust(0), done ? 3.0f + 1.125f : 3.0f);
            due("item(0, 4)", x.item(0, 4), done ? 2 : 1);
            due("item(0, 6)", x.item(0, 6), 0);
            due("count(12)", x.count(12), 0);
            dueEvent(x, 0, done ? 1 : 0, 3, done ? 0 : NONE, done ? 28 : 24);
            due("tick(3)", x.tick(3), done ? 1 : 0);
            due("job(3, 3)", x.job(3, 3), done ? 2 : 3);
            due("job(3, 9)", x.job(3, 9), done ? NONE : 1);
        }
    }

    private void theBorderOfLostReads() {
        title("it is a lost one if the dust of the drive ahead of it * the frailty of the tape is more than 3.0f");
        for (int dust = 4; dust <= 8; dust++) {
            int last = bits(3.0f / dust) - 3;
            while (dust * Float.intBitsToFloat(last + 1) <= 3.0f) {
                last++;
            }
            dueRead(dust, last, false);
            dueRead(dust, last + 1, true);
            dueRead(dust, bits(1.0f), true);
            dueRead(dust, 0, false);
            dueRead(dust, 1, false);
        }
        dueRead(3, bits(1.0f), false);
        dueRead(3, bits(1.0f) - 1, false);
        dueRead(1, bits(1.0f), false);
        title("the product is a float: 5.0f * 0.6f is 3.0f, as it is rounded");
        dueRead(5, bits(0.6f), false);
    }

    private void dueRead(int dust, int frailty, boolean lost) {
        Robot x = dusty(dust, 0);
        x.addTape(20, frailty);
        x.read(dust);
        String words = "dust " + dust + ", frailty " + frailty + ": ";
        due(words + "tick(5)", x.tick(5), 0);
        due(words + "count(12)", x.count(12), lost ? 1 : 0);
        due(words + "count(11)", x.count(11), dust + 1);
        due(words + "job(" + dust + ", 6)", x.job(dust, 6), lost ? 4 : 5);
        due(words + "dust(0)", x.dust(0), dust + 1.0f);
        due(words + "item(" + dust + ", 4)", x.item(dust, 4), 1);
        due(words + "item(" + dust + ", 6)", x.item(dust, 6), lost ? 1 : 0);
        due(words + "drive(0, 2)", x.drive(0, 2), lost ? 1 : 0);
        dueEvent(x, 0, lost ? 2 : 1, dust, 0, dust * 8 + 4);
    }

    private void theDustAheadOfARead() {
        title("the dust of the drive ahead of it");
        Robot x = dusty(3, 0);
        x.addTape(20, bits(1.0f));
        x.read(3);
        due("with 3.0f ahead and 4.0f behind: tick(8)", x.tick(8), 1);
        due("dust(0)", x.dust(0), 4.0f);
        x.read(3);
        due("with 4.0f ahead: tick(8)", x.tick(8), 0);
        due("count(12)", x.count(12), 3);
    }

    private void readsSoFar() {
        title("by a read of a tape with n reads so far the dust becomes dust + (1.0f + n * 0.125f)");
        Robot x = dusty(1, 0);
        x.setCeiling(0, bits(500.0f));
        float dust = 1.0f;
        for (int reads = 1; reads < 20; reads++) {
            due("item(0, 4)", x.item(0, 4), reads);
            due("dust(0)", x.dust(0), dust);
            x.read(0);
            x.tick(8);
            dust = dust + (1.0f + reads * 0.125f);
        }
        due("dust(0)", x.dust(0), dust);
        title("n * 0.125f, of many reads, on a drive without dust");
        for (int reads = 20; reads < 24; reads++) {
            x.read(0);
            x.tick(8);
        }
        for (int drive = 1; drive < 4; drive++) {
            x.addDrive(drive);
            x.read(0);
            x.tick(8);
            due("dust(" + drive + ")", x.dust(drive), 1.0f + (23 + drive) * 0.125f);
        }
        title("a lost read is a read, too");
        Robot y = dusty(4, 0);
        y.addTape(20, bits(1.0f));
        y.read(4);
        float lost = 4.0f;
        y.tick(4);
        for (int reads = 0; reads < 3; reads++) {
            y.tick(1);
            lost = lost + (1.0f + reads * 0.125f);
            due("dust(0)", y.dust(0), lost);
            due("item(4, 4)", y.item(4, 4), reads + 1);
            due("item(4, 6)", y.item(4, 6), reads + 1);
        }
    }

    /** A drive with 2.5f of dust that is cleaned eight times, and then reads a tape with eight reads so far. */
    private void theOrderOfTheSums() {
        title("each operation is rounded by itself, in the order in which it is written");
        Robot x = new Robot();
        x.setLimit(bits(1000.0f));
        x.addDrive(5);
        x.setCeiling(0, bits(500.0f));
        for (int tape = 0; tape < 3; tape++) {
            x.addTape(tape, 0);
        }
        x.addCleaner(7, 50);
        x.readJobsOf("r1;r1;r1;r1;r2;r2;r2;r2;r2;r2;r2;r2");
        x.tick(96);
        due("item(1, 4)", x.item(1, 4), 4);
        due("item(2, 4)", x.item(2, 4), 8);
        x.addDrive(6);
        x.readJobsOf("r0;r1");
        x.tick(16);
        due("dust(1)", x.dust(1), 2.5f);
        x.readJobsOf("c1;c1;c1;c1;c1;c1;c1;c1");
        x.tick(64);
        due("dust(1)", x.dust(1), 2.5f / (1 << 24));
        x.read(2);
        due("tick(8)", x.tick(8), 1);
        due("the sum in brackets is added as one: dust(1)", x.dust(1), Math.nextUp(2.0f));
    }

    private void theThirdLostRead() {
        title("behind the third lost one of this job the job is lost for the reason 2");
        Robot x = dusty(4, 0);
        x.addTape(10, bits(1.0f));
        x.read(4);
        x.tick(4);
        for (int lost = 1; lost <= 3; lost++) {
            due("job(4, 6)", x.job(4, 6), 4);
            due("job(4, 9)", x.job(4, 9), NONE);
            due("tick(1)", x.tick(1), 0);
            dueEvent(x, 0, 2, 4, 0, 35 + lost);
            due("count(12)", x.count(12), lost);
        }
        due("job(4, 9)", x.job(4, 9), 2);
        due("job(4, 6)", x.job(4, 6), 5);
        due("job(4, 3)", x.job(4, 3), 1);
        due("it is not read a fourth time: tick(1)", x.tick(1), 0);
        due("count(11)", x.count(11), 7);
        due("tick(1)", x.tick(1), 0);
        due("job(4, 3)", x.job(4, 3), 1);
        due("tick(1)", x.tick(1), 0);
        due("job(4, 3)", x.job(4, 3), 3);
        due("job(4, 5)", x.job(4, 5), 41);
        due("job(4, 9)", x.job(4, 9), 2);
    }

    private void tooDustyBetweenLostReads() {
        title("if the dust of the drive is more than its ceiling, nothing is read, and the job is lost for the reason 1");
        // The dust ahead of the three reads is 4.0f, 5.0f and 6.125f.
        dueLoss(bits(4.0f) - 1, 0, 1);
        dueLoss(bits(4.0f), 1, 1);
        dueLoss(bits(5.0f) - 1, 1, 1);
        dueLoss(bits(5.0f), 2, 1);
        dueLoss(bits(6.125f) - 1, 2, 1);
        dueLoss(bits(6.125f), 3, 2);
        dueLoss(bits(7.375f), 3, 2);
    }

    private void dueLoss(int ceiling, int lostReads, int reason) {
        Robot x = dusty(4, 0);
        x.addTape(10, bits(1.0f));
        x.read(4);
        x.tick(4);
        x.setCeiling(0, ceiling);
        String words = "ceiling " + Float.intBitsToFloat(ceiling) + ": ";
        int attempts = reason == 2 ? 3 : lostReads + 1;
        due(words + "fate(4, 1)", x.fate(4, 1), attempts + 3);
        for (int attempt = 1; attempt < attempts; attempt++) {
            x.tick(1);
            due(words + "job(4, 9)", x.job(4, 9), NONE);
        }
        x.tick(1);
        due(words + "job(4, 9)", x.job(4, 9), reason);
        due(words + "count(12)", x.count(12), lostReads);
        due(words + "count(11)", x.count(11), 4 + lostReads);
        due(words + "item(4, 4)", x.item(4, 4), lostReads);
        due(words + "dust(0)", x.dust(0), new float[] {4.0f, 5.0f, 6.125f, 7.375f}[lostReads]);
        dueEvent(x, 0, lostReads == 0 ? 0 : 2, 4, lostReads == 0 ? NONE : 0, lostReads == 0 ? 32 : 35 + lostReads);
        due(words + "tick(3)", x.tick(3), 0);
        due(words + "job(4, 3)", x.job(4, 3), 3);
        due(words + "job(4, 9)", x.job(4, 9), reason);
        due(words + "job(4, 5)", x.job(4, 5), 36 + attempts + 2);
        dueEvent(x, 0, 6, 4, NONE, 36 + attempts + 2);
    }

    private void lostReadsOfThisJob() {
        title("the third lost one of this job: those of another job with the tape do not count");
        Robot x = dusty(4, 0);
        x.setCeiling(0, bits(500.0f));
        x.addTape(10, bits(1.0f));
        x.read(4);
        x.read(4);
        x.tick(20);
        due("job(4, 9)", x.job(4, 9), 2);
        due("job(5, 9)", x.job(5, 9), 2);
        due("count(12)", x.count(12), 6);
        due("item(4, 6)", x.item(4, 6), 6);
        due("count(7)", x.count(7), 2);
        due("job(5, 5)", x.job(5, 5), 51);
    }

    private void aLostJobGoesOn() {
        title("a job that is lost goes on with its next step, so that the tape comes home");
        Robot x = dusty(2, 0);
        x.addTape(10, 0);
        x.read(2);
        x.tick(4);
        x.setCeiling(0, bits(1.0f));
        // Behind each tick: the robot's slot, its hand, where the item is, what is in the drive, the job's step.
        int[][] rows = {{0, NONE, 2, 2, 5}, {0, 2, 1, NONE, 6}, {10, 2, 1, NONE, 7}, {10, NONE, 0, NONE, NONE}};
        for (int[] row : rows) {
            due("tick(1)", x.tick(1), 0);
            due("count(1)", x.count(1), row[0]);
            due("count(2)", x.count(2), row[1]);
            due("item(2, 2)", x.item(2, 2), row[2]);
            due("drive(0, 4)", x.drive(0, 4), row[3]);
            due("job(2, 6)", x.job(2, 6), row[4]);
        }
        due("count(3)", x.count(3), NONE);
        due("job(2, 3)", x.job(2, 3), 3);
        title("a lost job pleads on its way home, too");
        Robot y = dusty(2, 0);
        y.addTape(10, 0);
        y.read(2);
        y.tick(4);
        y.setCeiling(0, bits(1.0f));
        y.setLimit(bits(2.0f));
        y.tick(10);
        due("job(2, 10)", y.job(2, 10), 8);
        due("job(2, 3)", y.job(2, 3), 1);
        due("job(2, 9)", y.job(2, 9), 1);
        y.setLimit(bits(1000.0f));
        y.tick(2);
        due("job(2, 3)", y.job(2, 3), 3);
    }

    private void aCleaningAndItsUse() {
        title("a cleaning makes the dust of a drive dust * 0.125f, and takes one use from the cleaner");
        Robot x = dusty(3, 0);
        x.addDrive(1);
        x.addCleaner(9, 2);
        x.addCleaner(10, 50);
        x.clean(0);
        x.tick(4);
        due("dust(0)", x.dust(0), 3.0f);
        due("item(3, 4)", x.item(3, 4), 2);
        x.tick(1);
        due("dust(0)", x.dust(0), 3.0f * 0.125f);
        due("dust(1)", x.dust(1), 0.0f);
        due("item(3, 4)", x.item(3, 4), 1);
        due("item(4, 4)", x.item(4, 4), 50);
        due("drive(0, 3)", x.drive(0, 3), 1);
        due("drive(1, 3)", x.drive(1, 3), 0);
        due("job(3, 9)", x.job(3, 9), NONE);
        x.tick(3);
        x.clean(0);
        x.tick(8);
        due("dust(0)", x.dust(0), 3.0f * 0.125f * 0.125f);
        due("the last use: item(3, 4)", x.item(3, 4), 0);
        due("count(17)", x.count(17), 50);
        due("count(13)", x.count(13), 2);
        title("it is done whatever the dust is");
        x.setCeiling(0, bits(1.0f));
        x.clean(1);
        x.tick(8);
        due("job(5, 3)", x.job(5, 3), 2);
        due("dust(1)", x.dust(1), 0.0f);
        due("drive(1, 3)", x.drive(1, 3), 1);
    }

    // ---- the log

    private void tenEvents() {
        title("the latest 10 events are known");
        Robot x = withMoves(7);
        int events = 0;
        for (int tick = 0; tick < 28; tick++) {
            x.tick(1);
            events += tick % 4 == 0 || tick % 4 == 3 ? 1 : 0;
            int known = Math.min(events, 10);
            int last = events - known;
            dueEvent(x, known - 1, last % 2 == 0 ? 0 : 5, last / 2, NONE, last / 2 * 4 + last % 2 * 3);
            due("event(" + known + ", 0)", x.event(known, 0), NONE);
            due("event(most, 0)", x.event(MOST, 0), NONE);
        }
        due("fourteen were there", events, 14);
    }

    private void eventsOfAJob() {
        title("the kinds of events");
        Robot read = furnished();
        read.read(0);
        read.tick(8);
        dueEvent(read, 0, 5, 0, NONE, 7);
        dueEvent(read, 1, 1, 0, 0, 4);
        dueEvent(read, 2, 0, 0, NONE, 0);
        due("event(3, 0)", read.event(3, 0), NONE);
        read.clean(0);
        read.tick(8);
        dueEvent(read, 0, 5, 1, NONE, 15);
        dueEvent(read, 1, 3, 1, 0, 12);
        dueEvent(read, 2, 0, 1, NONE, 8);
        due("event(5, 0)", read.event(5, 0), 0);
        due("event(6, 0)", read.event(6, 0), NONE);
        title("a job that is withdrawn, put off or given, and a state that is kept, are no events");
        read.move(0, 7);
        read.putOff(2, 900);
        read.withdraw(2);
        read.keep();
        read.tick(1);
        dueEvent(read, 0, 5, 1, NONE, 15);
        due("event(6, 0)", read.event(6, 0), NONE);
    }
}
