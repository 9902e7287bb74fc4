/** The edges that the document names of the history and the snapshot: promises 18 to 20. */
final class HistoryEdgesTest extends RobotChecks {
    public static void main(String[] args) {
        HistoryEdgesTest test = new HistoryEdgesTest();
        test.theHistory();
        test.theSnapshot();
        test.end();
    }

    private void theHistory() {
        anEmptyHistory();
        fourStates();
        theOldestIsDropped();
        eachActIsRecorded();
        actsThatAnswerZero();
        callsThatAreNoActs();
        undoIsNotRecorded();
        whatATickChanges();
        errorsAreNotRecorded();
        whatUndoLeavesAlone();
    }

    private void theSnapshot() {
        noSnapshotAtFirst();
        theNumberOfTheTick();
        aSnapshotStays();
        inPlaceOfTheOneThatWas();
        everythingComesBack();
        whatRestoreLeavesAlone();
        restoreIsAnAct();
        theSnapshotIsNoPartOfAState();
        theSameNumbersAgain();
        asNew();
        otherThingsOfTheSameNumbers();
    }

    // ---- promise 18

    private void anEmptyHistory() {
        title("18: NONE if the history is empty");
        Robot x = new Robot();
        dueNothing(x, NONE, Robot::undo);
        x.typeAll("r0");
        x.keep();
        dueNothing(x, NONE, Robot::undo);
        x.addTape(3, 0);
        dueNothing(new Robot(), "nothing has been done: ", NONE, Robot::undo);
        due("undo()", x.undo(), 0);
        dueNothing(x, "all is undone: ", NONE, Robot::undo);
    }

    private void fourStates() {
        title("18: a history of at most 4 states");
        for (int acts = 0; acts < 8; acts++) {
            Robot x = new Robot();
            for (int act = 0; act < acts; act++) {
                due("count(18)", x.count(18), Math.min(act, 4));
                x.addTape(act, 0);
            }
            int states = Math.min(acts, 4);
            due("count(18)", x.count(18), states);
            for (int left = states - 1; left >= 0; left--) {
                due("undo()", x.undo(), left);
                due("count(18)", x.count(18), left);
                due("count(9)", x.count(9), acts - states + left);
            }
            due("undo()", x.undo(), NONE);
            due("count(9)", x.count(9), acts - states);
        }
    }

    private void theOldestIsDropped() {
        title("18: when one more is recorded, the oldest one is dropped; undo() restores the latest one");
        Robot x = new Robot();
        String[] states = new String[12];
        for (int act = 0; act < 12; act++) {
            states[act] = Told.state(x);
            x.addCleaner(act, 1 + act);
        }
        for (int left = 3; left >= 0; left--) {
            x.undo();
            due("the state", Told.state(x), states[8 + left]);
        }
        x.undo();
        due("the state", Told.state(x), states[8]);
        title("18: acts between undos");
        Robot y = new Robot();
        y.addTape(0, 0);
        y.addTape(1, 0);
        y.undo();
        y.addTape(2, 0);
        y.addTape(3, 0);
        y.addTape(4, 0);
        y.addTape(5, 0);
        for (int left = 3; left >= 0; left--) {
            due("undo()", y.undo(), left);
            due("count(9)", y.count(9), 1 + left);
        }
        due("undo()", y.undo(), NONE);
        due("homeOf(0)", y.homeOf(0), 0);
        due("homeOf(1)", y.homeOf(1), NONE);
    }

    private void eachActIsRecorded() {
        title("18: each call of a method that is described as an act records the state that was before it");
        dueAct(busy(), 2, x -> x.addDrive(7));
        dueAct(busy(), 7, x -> x.addTape(23, bits(0.5f)));
        dueAct(busy(), 7, x -> x.addCleaner(23, 50));
        dueAct(busy(), 2, x -> x.refill(6, 50));
        dueAct(busy(), 1, x -> x.setLimit(bits(999.0f)));
        dueAct(busy(), 1, x -> x.setCeiling(0, bits(99.0f)));
        dueAct(busy(), 0, x -> x.setOrder(2, 1));
        dueAct(busy(), 12, x -> x.read(0));
        dueAct(busy(), 12, x -> x.clean(1));
        dueAct(busy(), 12, x -> x.move(6, 23));
        dueAct(busy(), 0, x -> x.putOff(6, 9999));
        dueAct(busy(), 3, x -> x.withdraw(10));
        dueAct(busy(), 0, x -> x.tick(1));
        dueAct(busy(), 4, x -> x.tick(100));
        dueAct(busy(), 2, Robot::readJobs);
        dueAct(busy(), 50, Robot::restore);
    }

    private void actsThatAnswerZero() {
        title("18: an act that answers 0 is recorded, too");
        dueAct(new Robot(), 0, x -> x.addDrive(0));
        dueAct(new Robot(), 0, x -> x.addTape(0, 0));
        dueAct(new Robot(), 0, x -> x.addCleaner(0, 1));
        Robot used = new Robot();
        used.addDrive(0);
        used.addCleaner(0, 1);
        used.clean(0);
        used.tick(8);
        dueAct(used.again(), 0, x -> x.refill(0, 1));
        dueAct(new Robot(), 0, x -> x.setOrder(1, 2));
        Robot first = new Robot();
        first.addDrive(0);
        first.addTape(0, 0);
        dueAct(first.again(), 0, x -> x.read(0));
        dueAct(first.again(), 0, x -> x.clean(0));
        dueAct(first.again(), 0, x -> x.move(0, 0));
        first.read(0);
        dueAct(first.again(), 0, x -> x.putOff(0, 1));
        dueAct(first.again(), 0, x -> x.withdraw(0));
        dueAct(first.again(), 0, x -> x.tick(1));
        dueAct(new Robot(), 0, x -> x.tick(1));
        Robot kept = new Robot();
        kept.keep();
        dueAct(kept, 0, Robot::restore);
        dueAct(kept, "in the very state of the snapshot: ", 0, Robot::restore);
    }

    private void callsThatAreNoActs() {
        title("18: calls that are not described as acts record nothing");
        Robot x = busy();
        due("count(18)", x.count(18), 3);
        due("type", x.type(';'), 8);
        due("count(18)", x.count(18), 3);
        due("clearText()", x.clearText(), 8);
        due("count(18)", x.count(18), 3);
        due("keep()", x.keep(), 64);
        due("count(18)", x.count(18), 3);
        due("undo()", x.undo(), 2);
        due("the act before them is undone: meter(1)", x.meter(1), 10.0f);
    }

    private void undoIsNotRecorded() {
        title("18: undo() removes the state that it restores");
        Robot x = new Robot();
        x.addTape(1, 0);
        x.addTape(2, 0);
        due("undo()", x.undo(), 1);
        due("count(9)", x.count(9), 1);
        due("it goes on with the one before: undo()", x.undo(), 0);
        due("count(9)", x.count(9), 0);
        due("undo()", x.undo(), NONE);
        due("count(9)", x.count(9), 0);
    }

    private void whatATickChanges() {
        title("18: what happens in a tick is undone: reads, lost reads and the loss of a job");
        Robot reading = dusty(4, 0);
        reading.addTape(9, bits(1.0f));
        reading.read(0);
        reading.read(4);
        for (int tick = 0; tick < 17; tick++) {
            dueAct(reading, tick == 7 ? 1 : 0, x -> x.tick(1));
        }
        title("18: cleanings, pleas and moves");
        Robot moving = dusty(2, 0);
        moving.addCleaner(6, 2);
        moving.clean(0);
        moving.move(2, 3);
        moving.setLimit(bits(10.0f));
        for (int tick = 0; tick < 24; tick++) {
            dueAct(moving, moving.again().fate(2, 1) == 1 || moving.again().fate(3, 1) == 1 ? 1 : 0, x -> x.tick(1));
        }
        due("pleas: count(14)", moving.count(14) > 0 ? 1 : 0, 1);
        due("done: count(6)", moving.count(6), 4);
    }

    private void errorsAreNotRecorded() {
        title("18: a call that returns an error or NONE records nothing");
        Robot x = new Robot();
        x.addDrive(0);
        x.addTape(1, 0);
        x.addCleaner(2, 3);
        int[] answers = {x.addDrive(24), x.addDrive(0), x.addTape(24, 0), x.addTape(1, 0), x.addTape(5, -1),
            x.addCleaner(5, 51), x.addCleaner(2, 1), x.refill(3, 1), x.refill(1, 0), x.refill(0, 1), x.refill(1, 3),
            x.setLimit(0), x.setLimit(bits(20.0f)), x.setCeiling(1, bits(8.0f)), x.setCeiling(0, bits(8.0f)),
            x.setOrder(0, 0), x.setOrder(0, 1), x.read(2), x.read(1), x.clean(1), x.move(0, 24), x.putOff(0, 0),
            x.withdraw(0), x.tick(0), x.readJobs(), x.restore()};
        for (int i = 0; i < answers.length; i++) {
            due("the error of the call " + i, answers[i] < 0 ? 1 : 0, 1);
        }
        due("count(18)", x.count(18), 3);
        due("undo()", x.undo(), 2);
        due("count(9)", x.count(9), 1);
    }

    private void whatUndoLeavesAlone() {
        title("18: a state is everything but the text, the history and the snapshot");
        Robot x = new Robot();
        x.addTape(1, 0);
        x.typeAll("r0;");
        x.addTape(2, 0);
        x.keep();
        x.clearText();
        x.typeAll("m1>5");
        due("undo()", x.undo(), 1);
        due("undo()", x.undo(), 0);
        due("the text: count(19)", x.count(19), 4);
        due("readJobs()", x.readJobs(), UNKNOWN);
        due("the snapshot: restore()", x.restore(), 0);
        due("count(9)", x.count(9), 2);
        due("readJobs()", x.readJobs(), 1);
    }

    // ---- promises 19 and 20

    private void noSnapshotAtFirst() {
        title("20: NONE if there is no snapshot");
        dueNothing(new Robot(), NONE, Robot::restore);
        Robot x = new Robot();
        x.addTape(3, 0);
        x.tick(5);
        x.undo();
        dueNothing(x, "behind undo(): ", NONE, Robot::restore);
        due("keep()", x.keep(), 0);
        dueAct(x, 0, Robot::restore);
        title("19: a snapshot of a robot that has nothing is one");
        Robot y = new Robot();
        y.keep();
        y.addDrive(5);
        y.tick(1);
        dueAct(y, 0, Robot::restore);
        due("count(10)", y.count(10), 0);
    }

    private void theNumberOfTheTick() {
        title("19, 20: the number of the tick");
        for (int hundreds : new int[] {0, 1, 99, 100}) {
            Robot x = new Robot();
            for (int passed = 0; passed < hundreds; passed++) {
                x.tick(100);
            }
            due("keep()", x.keep(), hundreds * 100);
            x.undo();
            dueAct(x, hundreds * 100, Robot::restore);
        }
    }

    private void aSnapshotStays() {
        title("20: the snapshot stays");
        Robot x = busy();
        due("keep()", x.keep(), 64);
        String kept = Told.state(x);
        for (int turn = 0; turn < 3; turn++) {
            x.tick(37);
            x.read(0);
            x.addTape(23, 0);
            x.addDrive(7);
            x.setCeiling(2, bits(3.0f));
            due("restore()", x.restore(), 64);
            due("the state", Told.state(x), kept);
        }
        due("restore()", x.restore(), 64);
        due("the state", Told.state(x), kept);
    }

    private void inPlaceOfTheOneThatWas() {
        title("19: in place of the one that was");
        Robot x = new Robot();
        x.addTape(1, 0);
        x.keep();
        x.addTape(2, 0);
        x.tick(9);
        due("keep()", x.keep(), 9);
        x.tick(1);
        due("restore()", x.restore(), 9);
        due("count(9)", x.count(9), 2);
        for (int undos = 0; undos < 4; undos++) {
            x.undo();
        }
        due("count(9)", x.count(9), 1);
        due("a smaller one in place of a larger one: keep()", x.keep(), 0);
        x.addTape(5, 0);
        due("restore()", x.restore(), 0);
        due("count(9)", x.count(9), 1);
        due("homeOf(5)", x.homeOf(5), NONE);
    }

    private void everythingComesBack() {
        title("20: everything but the text, the history and the snapshot comes back");
        Robot.Call[] changes = {
            x -> x.addDrive(7), x -> x.addTape(23, 1), x -> x.addCleaner(23, 1), x -> x.refill(6, 9),
            x -> x.setLimit(bits(33.0f)), x -> x.setCeiling(0, bits(44.0f)), x -> x.setOrder(1, 2), x -> x.read(3),
            x -> x.clean(1), x -> x.move(3, 16), x -> x.putOff(7, 77), x -> x.withdraw(7), x -> x.tick(1),
            x -> x.tick(2), x -> x.tick(3), x -> x.tick(8), x -> x.tick(50), Robot::readJobs, Robot::undo,
        };
        String kept = Told.state(busy());
        for (Robot.Call change : changes) {
            Robot x = busy();
            x.keep();
            change.on(x);
            String name = x.lastCall();
            due("a change: " + name, Told.state(x).equals(kept) ? 0 : 1, 1);
            due("restore() behind " + name, x.restore(), 64);
            due("the state behind " + name, Told.state(x), kept);
            Robot fresh = busy();
            x.tick(77);
            fresh.tick(77);
            due("what comes then, behind " + name, Told.state(x), Told.state(fresh));
        }
    }

    private void whatRestoreLeavesAlone() {
        title("20: the text and the history are no part of the snapshot");
        Robot x = new Robot();
        x.typeAll("r0");
        x.keep();
        x.addTape(1, 0);
        x.addTape(2, 0);
        x.clearText();
        x.typeAll("m1>7;c0");
        due("restore()", x.restore(), 0);
        due("count(19)", x.count(19), 7);
        due("count(18)", x.count(18), 3);
        due("undo()", x.undo(), 2);
        due("count(9)", x.count(9), 2);
        due("undo()", x.undo(), 1);
        due("count(9)", x.count(9), 1);
        due("count(19)", x.count(19), 7);
    }

    private void restoreIsAnAct() {
        title("20: this is an act");
        Robot x = new Robot();
        x.addTape(1, 0);
        x.keep();
        x.addTape(2, 0);
        dueAct(x, 0, Robot::restore);
        due("count(9)", x.count(9), 1);
        due("undo()", x.undo(), 2);
        due("count(9)", x.count(9), 2);
        for (int turn = 0; turn < 6; turn++) {
            due("restore()", x.restore(), 0);
        }
        due("count(18)", x.count(18), 4);
        for (int left = 3; left >= 0; left--) {
            due("undo()", x.undo(), left);
            due("count(9)", x.count(9), 1);
        }
    }

    private void theSnapshotIsNoPartOfAState() {
        title("19, 20: a snapshot that was taken is not taken back with undo()");
        Robot x = new Robot();
        x.addTape(1, 0);
        x.tick(3);
        x.keep();
        x.undo();
        x.undo();
        due("count(9)", x.count(9), 0);
        due("restore()", x.restore(), 3);
        due("count(9)", x.count(9), 1);
        title("19, 20: nor with restore()");
        Robot y = new Robot();
        y.keep();
        y.addTape(1, 0);
        y.restore();
        y.addTape(2, 0);
        y.keep();
        y.undo();
        due("restore()", y.restore(), 0);
        due("homeOf(2)", y.homeOf(2), 0);
    }

    private void theSameNumbersAgain() {
        title("18, 20: numbers that were taken back are given again, with nothing of what was there");
        Robot x = new Robot();
        x.addDrive(0);
        x.addTape(1, 0);
        x.read(0);
        x.keep();
        for (int turn = 0; turn < 3; turn++) {
            due("addDrive", x.addDrive(5 + turn), 1);
            due("addCleaner", x.addCleaner(9 + turn, 3), 1);
            due("clean", x.clean(1), 1);
            due("tick", x.tick(1), 0);
            if (turn == 1) {
                x.undo();
                x.undo();
                x.undo();
                x.undo();
            } else {
                x.restore();
            }
            due("count(10)", x.count(10), 1);
            due("item(1, 0)", x.item(1, 0), UNKNOWN);
            due("job(1, 0)", x.job(1, 0), UNKNOWN);
            due("count(0)", x.count(0), 0);
        }
    }

    private void asNew() {
        title("20: a robot whose state is taken back to its beginning is as a new one");
        Robot x = new Robot();
        x.keep();
        x.addDrive(3);
        x.addDrive(9);
        x.addTape(0, bits(1.0f));
        x.addCleaner(1, 3);
        x.setCeiling(0, bits(2.0f));
        x.setCeiling(1, bits(499.0f));
        x.setLimit(bits(12.0f));
        x.readJobsOf("r0;r0;r0;r0;c1;r0;r0;m0>20");
        x.putOff(6, 20);
        x.setOrder(1, 0);
        x.tick(100);
        x.tick(100);
        due("lost reads: count(12)", x.count(12) > 0 ? 1 : 0, 1);
        due("pleas: count(14)", x.count(14) > 0 ? 1 : 0, 1);
        due("restore()", x.restore(), 0);
        Robot fresh = new Robot();
        due("the state", Told.state(x), Told.state(fresh));
        for (Robot robot : new Robot[] {x, fresh}) {
            robot.addCleaner(5, 3);
            robot.addTape(6, bits(0.5f));
            robot.addDrive(7);
            robot.addDrive(8);
            robot.readJobsOf("m0>4;r1;c0;m1>9;r1;r1;r1");
        }
        for (int tick = 0; tick < 60; tick++) {
            due("the state", Told.state(x), Told.state(fresh));
            x.tick(1);
            fresh.tick(1);
        }
    }

    private void otherThingsOfTheSameNumbers() {
        title("18, 20: the same number is a tape in one state and a cleaner in another one, and likewise for jobs");
        Robot x = new Robot();
        x.keep();
        x.addDrive(5);
        x.addTape(3, bits(0.5f));
        x.read(0);
        String tape = Told.state(x);
        x.restore();
        x.addCleaner(8, 7);
        x.addDrive(2);
        x.move(0, 20);
        String cleaner = Told.state(x);
        x.keep();
        for (int undos = 0; undos < 4; undos++) {
            x.undo();
        }
        due("the state with the tape", Told.state(x), tape);
        due("restore()", x.restore(), 0);
        due("the state with the cleaner", Told.state(x), cleaner);
        due("undo()", x.undo(), 0);
        due("the state with the tape", Told.state(x), tape);
        x.keep();
        x.tick(8);
        due("it is read: item(0, 4)", x.item(0, 4), 1);
        due("restore()", x.restore(), 0);
        due("the state with the tape", Told.state(x), tape);
    }
}
