/** What the tests of promises and of edges check with. */
abstract class RobotChecks {
    static final int UNKNOWN = DustRobot.UNKNOWN;
    static final int BAD_VALUE = DustRobot.BAD_VALUE;
    static final int FULL = DustRobot.FULL;
    static final int NOT_POSSIBLE = DustRobot.NOT_POSSIBLE;
    static final int NONE = DustRobot.NONE;
    static final int LEAST = Integer.MIN_VALUE;
    static final int MOST = Integer.MAX_VALUE;

    /** Ways to go on with a robot, each of which shows another part of what it holds. */
    private static final Robot.Call[] WAYS_ON = {
        x -> x.count(0), x -> x.tick(1), x -> x.tick(100), x -> x.undo(), RobotChecks::undoAll, x -> x.restore(),
        x -> x.readJobs(), x -> x.type(';'),
    };

    private final Checks checks = new Checks();

    private static int undoAll(Robot x) {
        int answer = x.undo();
        while (answer > 0) {
            answer = x.undo();
        }
        return answer;
    }

    void title(String title) {
        checks.title(title);
    }

    void due(String call, long got, long want) {
        checks.due(call, got, want);
    }

    void due(String call, float got, float want) {
        checks.due(call, got, want);
    }

    void due(String call, String got, String want) {
        checks.due(call, got, want);
    }

    void end() {
        checks.end();
    }

    /** The call answers so: an error, NONE or what was asked for; and it changes nothing, now or in what comes behind. */
    void dueNothing(Robot x, String words, int want, Robot.Call call) {
        Robot called = x.again();
        int got = call.on(called);
        String name = words + called.lastCall();
        due(name, got, want);
        for (Robot.Call way : WAYS_ON) {
            Robot with = x.again();
            call.on(with);
            Robot without = x.again();
            int answer = way.on(without);
            due(without.lastCall() + " behind " + name, way.on(with), answer);
            due("what is told behind " + name + " and " + without.lastCall(), Told.all(with), Told.all(without));
        }
    }

    void dueNothing(Robot x, int want, Robot.Call call) {
        dueNothing(x, "", want, call);
    }

    /** The call answers so and is an act: the state before it is recorded. The robot has done it then. */
    void dueAct(Robot x, String words, int want, Robot.Call call) {
        int before = x.again().count(18);
        Robot acted = x.again();
        int got = call.on(acted);
        String name = words + acted.lastCall();
        due(name, got, want);
        int states = Math.min(before + 1, 4);
        due("count(18) behind " + name, acted.count(18), states);
        due("count(19) behind " + name, acted.count(19), x.again().count(19));
        Robot undone = acted.again();
        due("undo() of " + name, undone.undo(), states - 1);
        due("the state behind undo() of " + name, Told.state(undone), Told.state(x));
        due(name + " again", call.on(undone), want);
        due("the state behind " + name + " again", Told.state(undone), Told.state(acted));
        if (before > 0) {
            Robot twice = acted.again();
            twice.undo();
            twice.undo();
            Robot once = x.again();
            once.undo();
            due("the state ahead of that before " + name, Told.state(twice), Told.state(once));
        }
        call.on(x);
    }

    void dueAct(Robot x, int want, Robot.Call call) {
        dueAct(x, "", want, call);
    }

    /** All that an event tells. */
    void dueEvent(Robot x, int back, int kind, int job, int drive, int tick) {
        int[] told = {kind, job, drive, tick};
        for (int what = 0; what < told.length; what++) {
            due("event(" + back + ", " + what + ")", x.event(back, what), told[what]);
        }
    }

    /** All that a job tells, as far as the row goes. */
    void dueJob(Robot x, int job, int... row) {
        for (int what = 0; what < row.length; what++) {
            due("job(" + job + ", " + what + ")", x.job(job, what), row[what]);
        }
    }

    /** The order of all jobs that wait. */
    void dueOrder(Robot x, int... jobs) {
        for (int place = 0; place < jobs.length; place++) {
            due("order(" + place + ")", x.order(place), jobs[place]);
        }
        due("order(" + jobs.length + ")", x.order(jobs.length), NONE);
    }

    /** What fate() tells of a job. */
    void dueFate(Robot x, int job, int... told) {
        for (int what = 0; what < told.length; what++) {
            due("fate(" + job + ", " + what + ")", x.fate(job, what), told[what]);
        }
    }

    static int bits(float value) {
        return Float.floatToRawIntBits(value);
    }

    /** A robot with a drive at 0 and tapes of the frailty, one a slot from 0 on, all read once: its dust is as many. */
    static Robot dusty(int tapes, int frailty) {
        Robot x = new Robot();
        x.setLimit(bits(1000.0f));
        x.addDrive(0);
        for (int tape = 0; tape < tapes; tape++) {
            x.addTape(tape, frailty);
            x.read(tape);
            x.tick(8);
        }
        return x;
    }

    /**
     * A robot that holds something of everything, so that a change of any of it is seen: jobs in each state, pleas, lost
     * reads, a full log, three states in the history, an older snapshot, and a text with jobs that can be given.
     */
    static Robot busy() {
        Robot x = dusty(5, bits(0.25f));
        x.addTape(10, bits(1.0f));
        x.addCleaner(20, 2);
        x.read(5);
        x.tick(10);
        x.addDrive(19);
        x.readJobsOf("r5;m5>12;c1;r0;m1>20;c0");
        x.withdraw(9);
        x.keep();
        x.setLimit(bits(10.0f));
        x.tick(14);
        x.setLimit(bits(40.0f));
        x.putOff(6, 400);
        x.undo();
        x.clearText();
        x.typeAll("r0;m6>2");
        return x;
    }
}
