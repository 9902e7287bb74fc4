/** The edges that the document names of the row, the drives, the items and the meter's limit: promises 1 to 8. */
final class RowEdgesTest extends RobotChecks {
    private static final int MINUS_ZERO = bits(-0.0f);
    private static final int HALF = bits(0.5f);
    /** Bits that are no number, or one below every range or above it. */
    private static final int[] NO_AMOUNTS = {
        bits(Float.NaN), 0x7F800001, 0x7FBFFFFF, MOST, 0xFF800001, 0xFFC00000, -1, bits(Float.POSITIVE_INFINITY),
        bits(Float.NEGATIVE_INFINITY), MINUS_ZERO, LEAST + 1, bits(-1.0f), bits(-20.0f), bits(1000.0f) + 1,
        bits(Float.MAX_VALUE),
    };

    public static void main(String[] args) {
        RowEdgesTest test = new RowEdgesTest();
        test.firstPart();
        test.secondPart();
        test.end();
    }

    private void firstPart() {
        callsUpToTheLast();
        aNewObject();
        slotsOfDrives();
        fourDrives();
        noTwoDrivesBesideOneSlot();
        checksOfAddDrive();
        slotsOfItems();
        eighteenItems();
        oneItemInASlot();
        slotsThatAreAimedAt();
        slotsThatAreNotAimedAt();
    }

    private void secondPart() {
        frailties();
        usesOfACleaner();
        checksOfAddTape();
        checksOfAddCleaner();
        usesOfARefill();
        soManyUses();
        checksOfRefill();
        limits();
        limitsThatAreSoAlready();
        ceilings();
        ceilingsThatAreSoAlready();
        checksOfSetCeiling();
        ordersOfKinds();
        ordersThatAreSoAlready();
    }

    private void callsUpToTheLast() {
        title("an object is used for at most 512 calls: things that are added and taken back");
        Robot x = new Robot();
        for (int round = 0; round < 128; round++) {
            due("addTape", x.addTape(round % 24, HALF), 0);
            due("move", x.move(0, 23 - round % 24), 0);
            due("undo", x.undo(), 1);
            due("undo", x.undo(), 0);
        }
        due("calls", x.calls(), 512);
        title("an object is used for at most 512 calls: acts without an end");
        Robot y = new Robot();
        for (int act = 0; act < 511; act++) {
            due("setLimit", y.setLimit(bits(1.0f + act % 2)), 1);
        }
        due("the 512th call: setLimit", y.setLimit(bits(2.0f)), 1);
        title("an object is used for at most 512 calls: ticks without an end");
        Robot z = new Robot();
        for (int act = 0; act < 511; act++) {
            due("tick", z.tick(19), 0);
        }
        due("the 512th call: count(0)", z.count(0), 511 * 19);
    }

    // ---- promise 1

    private void aNewObject() {
        title("1: an empty row with a robot at the slot 0");
        Robot x = new Robot();
        for (int what = 0; what < 20; what++) {
            due("count(" + what + ")", x.count(what), what == 2 || what == 3 ? NONE : 0);
        }
        due("the meter", x.meter(0), 0.0f);
        due("its limit", x.meter(1), 20.0f);
        due("the dust of no drives", x.meter(2), 0.0f);
        for (int slot = 0; slot < 24; slot++) {
            due("homeOf(" + slot + ")", x.homeOf(slot), NONE);
            due("mayGo(" + slot + ")", x.mayGo(slot), 0);
        }
        for (int number = -1; number < 2; number++) {
            due("item(" + number + ", 0)", x.item(number, 0), UNKNOWN);
            due("takes(0, " + number + ")", x.takes(0, number), UNKNOWN);
            due("drive(" + number + ", 0)", x.drive(number, 0), UNKNOWN);
            due("dust(" + number + ")", x.dust(number), Float.NaN);
            due("ceiling(" + number + ")", x.ceiling(number), Float.NaN);
            due("job(" + number + ", 0)", x.job(number, 0), UNKNOWN);
            due("fate(" + number + ", 0)", x.fate(number, 0), UNKNOWN);
        }
        due("order(0)", x.order(0), NONE);
        due("next()", x.next(), NONE);
        due("event(0, 0)", x.event(0, 0), NONE);
        dueNothing(x, NONE, Robot::undo);
        dueNothing(x, NONE, Robot::restore);
        dueNothing(x, -100, Robot::readJobs);
        dueNothing(x, 0, Robot::clearText);
    }

    // ---- promise 2

    private void slotsOfDrives() {
        title("2: there are 24 slots, numbered from 0");
        dueAct(new Robot(), 0, x -> x.addDrive(0));
        dueAct(new Robot(), 0, x -> x.addDrive(23));
        for (int slot : new int[] {-1, 24, LEAST, MOST}) {
            dueNothing(new Robot(), UNKNOWN, x -> x.addDrive(slot));
            dueNothing(busy(), UNKNOWN, x -> x.addDrive(slot));
        }
        for (int slot = 0; slot < 24; slot++) {
            Robot x = new Robot();
            due("addDrive(" + slot + ")", x.addDrive(slot), 0);
            due("drive(0, 0)", x.drive(0, 0), slot);
        }
    }

    private void fourDrives() {
        title("2: at most 4 drives, numbered from 0");
        Robot x = new Robot();
        for (int drive = 0; drive < 4; drive++) {
            due("drive(" + drive + ", 0)", x.drive(drive, 0), UNKNOWN);
            due("count(10)", x.count(10), drive);
            int slot = 23 - drive;
            dueAct(x, drive, r -> r.addDrive(slot));
        }
        dueNothing(x, FULL, r -> r.addDrive(0));
        dueNothing(x, FULL, r -> r.addDrive(19));
        due("count(10)", x.count(10), 4);
        due("drive(3, 0)", x.drive(3, 0), 20);
        due("drive(4, 0)", x.drive(4, 0), UNKNOWN);
        x.undo();
        dueAct(x, "behind undo(): ", 3, r -> r.addDrive(0));
        title("2: of a drive at first");
        int[] first = {0, 0, 0, 0, NONE, 0};
        for (int what = 0; what < first.length; what++) {
            due("drive(3, " + what + ")", x.drive(3, what), first[what]);
        }
        due("dust(3)", x.dust(3), 0.0f);
        due("ceiling(3)", x.ceiling(3), 8.0f);
    }

    private void noTwoDrivesBesideOneSlot() {
        title("2: no two drives beside the same slot");
        Robot x = new Robot();
        int[] slots = {0, 23, 11, 12};
        for (int drives = 0; drives < 4; drives++) {
            x.addDrive(slots[drives]);
            for (int drive = 0; drive <= drives; drive++) {
                int slot = slots[drive];
                dueNothing(x, NOT_POSSIBLE, r -> r.addDrive(slot));
            }
        }
        title("2: an item's slot may be beside a drive, and a drive beside an item's slot");
        Robot y = new Robot();
        y.addTape(5, 0);
        y.addCleaner(6, 1);
        dueAct(y, 0, r -> r.addDrive(5));
        dueAct(y, 1, r -> r.addDrive(6));
        y.addDrive(7);
        dueAct(y, 2, r -> r.addTape(7, 0));
    }

    private void checksOfAddDrive() {
        title("2: UNKNOWN; NOT_POSSIBLE if there is a drive beside this slot; FULL if there are 4");
        Robot x = new Robot();
        for (int slot = 0; slot < 4; slot++) {
            x.addDrive(slot);
        }
        dueNothing(x, UNKNOWN, r -> r.addDrive(-1));
        dueNothing(x, UNKNOWN, r -> r.addDrive(24));
        dueNothing(x, NOT_POSSIBLE, r -> r.addDrive(0));
        dueNothing(x, NOT_POSSIBLE, r -> r.addDrive(3));
        dueNothing(x, FULL, r -> r.addDrive(4));
    }

    // ---- promises 3 and 4

    private void slotsOfItems() {
        title("3, 4: there are 24 slots, numbered from 0");
        dueAct(new Robot(), 0, x -> x.addTape(0, HALF));
        dueAct(new Robot(), 0, x -> x.addTape(23, HALF));
        dueAct(new Robot(), 0, x -> x.addCleaner(0, 1));
        dueAct(new Robot(), 0, x -> x.addCleaner(23, 1));
        for (int slot : new int[] {-1, 24, LEAST, MOST}) {
            dueNothing(busy(), UNKNOWN, x -> x.addTape(slot, HALF));
            dueNothing(busy(), UNKNOWN, x -> x.addCleaner(slot, 1));
        }
        for (int slot = 0; slot < 24; slot++) {
            Robot x = new Robot();
            due("addTape(" + slot + ")", x.addTape(slot, HALF), 0);
            due("item(0, 1)", x.item(0, 1), slot);
            due("homeOf(" + slot + ")", x.homeOf(slot), 0);
            due("addCleaner", x.addCleaner(23 - slot, 1), 1);
            due("item(1, 1)", x.item(1, 1), 23 - slot);
        }
    }

    private void eighteenItems() {
        title("3, 4: at most 18 items, numbered from 0 in the order in which they were added");
        Robot x = new Robot();
        for (int item = 0; item < 17; item++) {
            due("item(" + item + ", 0)", x.item(item, 0), UNKNOWN);
            due("count(9)", x.count(9), item);
            due("its number", item % 3 == 1 ? x.addCleaner(item, 1) : x.addTape(item, 0), item);
        }
        Robot tapeAtLast = x.again();
        dueAct(tapeAtLast, 17, r -> r.addTape(23, 0));
        dueAct(x, 17, r -> r.addCleaner(23, 50));
        for (Robot full : new Robot[] {tapeAtLast, x}) {
            dueNothing(full, FULL, r -> r.addTape(22, 0));
            dueNothing(full, FULL, r -> r.addCleaner(22, 1));
            due("count(9)", full.count(9), 18);
            due("item(17, 1)", full.item(17, 1), 23);
            due("item(18, 0)", full.item(18, 0), UNKNOWN);
        }
        for (int item = 0; item < 18; item++) {
            due("item(" + item + ", 0)", x.item(item, 0), item % 3 == 1 || item == 17 ? 1 : 0);
        }
        x.undo();
        dueAct(x, "behind undo(): ", 17, r -> r.addTape(17, 0));
    }

    private void oneItemInASlot() {
        title("3, 4: a slot holds at most one item");
        Robot x = new Robot();
        x.addTape(0, 0);
        x.addCleaner(23, 1);
        for (int slot : new int[] {0, 23}) {
            dueNothing(x, NOT_POSSIBLE, r -> r.addTape(slot, 0));
            dueNothing(x, NOT_POSSIBLE, r -> r.addCleaner(slot, 1));
        }
        dueAct(x, 2, r -> r.addTape(1, 0));
        dueAct(x, 3, r -> r.addCleaner(22, 1));
        title("3, 4: a home is a home while its item is in the hand or in a drive");
        Robot y = new Robot();
        y.addDrive(9);
        y.addTape(4, 0);
        y.read(0);
        for (int step = 0; step < 9; step++) {
            dueNothing(y, NOT_POSSIBLE, r -> r.addTape(4, 0));
            dueNothing(y, NOT_POSSIBLE, r -> r.addCleaner(4, 1));
            y.tick(1);
        }
    }

    private void slotsThatAreAimedAt() {
        title("3, 4: NOT_POSSIBLE if one is to be moved there just now");
        Robot x = new Robot();
        x.setLimit(bits(1000.0f));
        x.addTape(3, 0);
        x.addCleaner(4, 1);
        x.move(0, 0);
        x.move(1, 23);
        x.tick(1);
        for (int tick = 1; tick < 8; tick++) {
            int aim = tick < 4 ? 0 : 23;
            int home = tick < 4 ? 3 : 4;
            if (tick != 4) {
                dueNothing(x, NOT_POSSIBLE, r -> r.addTape(aim, 0));
                dueNothing(x, NOT_POSSIBLE, r -> r.addCleaner(aim, 1));
            }
            dueNothing(x, NOT_POSSIBLE, r -> r.addTape(home, 0));
            dueNothing(x, NOT_POSSIBLE, r -> r.addCleaner(home, 1));
            x.tick(1);
        }
        title("3, 4: behind the move it is a home, and the old home is none");
        dueNothing(x, NOT_POSSIBLE, r -> r.addTape(0, 0));
        dueNothing(x, NOT_POSSIBLE, r -> r.addCleaner(23, 1));
        dueAct(x, 2, r -> r.addTape(3, 0));
        dueAct(x, 3, r -> r.addCleaner(4, 1));
    }

    private void slotsThatAreNotAimedAt() {
        title("3, 4: a slot is not aimed at by a job that waits, is withdrawn or done, or is of another kind");
        Robot waiting = new Robot();
        waiting.addTape(3, 0);
        waiting.move(0, 7);
        dueAct(waiting.again(), 1, x -> x.addTape(7, 0));
        dueAct(waiting.again(), 1, x -> x.addCleaner(7, 1));
        Robot between = waiting.again();
        between.move(0, 8);
        between.tick(4);
        dueAct(between.again(), "a job to 8 that waits behind the one that is done: ", 1, x -> x.addTape(8, 0));
        Robot withdrawn = waiting.again();
        withdrawn.withdraw(0);
        withdrawn.tick(1);
        dueAct(withdrawn, 1, x -> x.addTape(7, 0));
        Robot done = waiting.again();
        done.move(0, 8);
        done.tick(8);
        dueAct(done, 1, x -> x.addTape(7, 0));
        Robot reading = new Robot();
        reading.addDrive(7);
        reading.addTape(3, 0);
        reading.read(0);
        for (int step = 0; step < 8; step++) {
            reading.tick(1);
            dueAct(reading.again(), 1, x -> x.addTape(7, 0));
        }
        Robot brought = waiting.again();
        brought.tick(1);
        brought.undo();
        dueAct(brought, "the job waits again: ", 1, x -> x.addTape(7, 0));
    }

    private void frailties() {
        title("3: a frailty from 0.0f to 1.0f, and not -0.0f");
        int[] good = {0, 1, 0x007FFFFF, 0x00800000, 0x00800001, bits(0.1f), HALF, bits(1.0f) - 1, bits(1.0f)};
        for (int frailty : good) {
            Robot x = new Robot();
            dueAct(x, 0, r -> r.addTape(9, frailty));
            due("item(0, 5)", x.item(0, 5), frailty);
        }
        dueNothing(busy(), BAD_VALUE, x -> x.addTape(9, bits(1.0f) + 1));
        dueNothing(busy(), BAD_VALUE, x -> x.addTape(9, LEAST));
        for (int frailty : NO_AMOUNTS) {
            dueNothing(new Robot(), BAD_VALUE, x -> x.addTape(9, frailty));
        }
    }

    private void usesOfACleaner() {
        title("4: 1 to 50 uses");
        for (int uses : new int[] {1, 2, 49, 50}) {
            Robot x = new Robot();
            dueAct(x, 0, r -> r.addCleaner(9, uses));
            due("item(0, 4)", x.item(0, 4), uses);
        }
        for (int uses : new int[] {0, 51, -1, LEAST, MOST}) {
            dueNothing(busy(), BAD_VALUE, x -> x.addCleaner(9, uses));
        }
    }

    /** 18 items in the slots 0 to 17. */
    private static Robot fullOfItems() {
        Robot x = new Robot();
        for (int item = 0; item < 18; item++) {
            x.addTape(item, 0);
        }
        return x;
    }

    private void checksOfAddTape() {
        title("3: UNKNOWN; BAD_VALUE; NOT_POSSIBLE; FULL");
        Robot x = fullOfItems();
        dueNothing(x, UNKNOWN, r -> r.addTape(-1, bits(1.0f) + 1));
        dueNothing(x, UNKNOWN, r -> r.addTape(24, MINUS_ZERO));
        dueNothing(x, UNKNOWN, r -> r.addTape(24, 0));
        dueNothing(x, BAD_VALUE, r -> r.addTape(17, MINUS_ZERO));
        dueNothing(x, BAD_VALUE, r -> r.addTape(18, MINUS_ZERO));
        dueNothing(x, NOT_POSSIBLE, r -> r.addTape(17, 0));
        dueNothing(x, NOT_POSSIBLE, r -> r.addTape(0, 0));
        dueNothing(x, FULL, r -> r.addTape(18, 0));
        x.move(4, 20);
        x.tick(1);
        dueNothing(x, "to be moved there: ", NOT_POSSIBLE, r -> r.addTape(20, 0));
        dueNothing(x, "to be moved there: ", BAD_VALUE, r -> r.addTape(20, -1));
    }

    private void checksOfAddCleaner() {
        title("4: UNKNOWN; BAD_VALUE; NOT_POSSIBLE; FULL");
        Robot x = fullOfItems();
        dueNothing(x, UNKNOWN, r -> r.addCleaner(-1, 0));
        dueNothing(x, UNKNOWN, r -> r.addCleaner(24, 51));
        dueNothing(x, UNKNOWN, r -> r.addCleaner(24, 1));
        dueNothing(x, BAD_VALUE, r -> r.addCleaner(17, 0));
        dueNothing(x, BAD_VALUE, r -> r.addCleaner(18, 51));
        dueNothing(x, NOT_POSSIBLE, r -> r.addCleaner(17, 1));
        dueNothing(x, NOT_POSSIBLE, r -> r.addCleaner(0, 50));
        dueNothing(x, FULL, r -> r.addCleaner(18, 1));
        x.move(4, 20);
        x.tick(1);
        dueNothing(x, "to be moved there: ", NOT_POSSIBLE, r -> r.addCleaner(20, 1));
        dueNothing(x, "to be moved there: ", BAD_VALUE, r -> r.addCleaner(20, 51));
    }

    // ---- promise 5

    private void usesOfARefill() {
        title("5: 1 to 50 uses");
        Robot x = new Robot();
        x.addCleaner(9, 25);
        int before = 25;
        for (int uses : new int[] {1, 50, 2, 49}) {
            dueAct(x, before, r -> r.refill(0, uses));
            due("item(0, 4)", x.item(0, 4), uses);
            due("count(17)", x.count(17), uses);
            before = uses;
        }
        for (int uses : new int[] {0, 51, -1, LEAST, MOST}) {
            dueNothing(x, BAD_VALUE, r -> r.refill(0, uses));
            dueNothing(busy(), BAD_VALUE, r -> r.refill(6, uses));
        }
    }

    private void soManyUses() {
        title("5: NONE if it has so many");
        Robot x = new Robot();
        x.addDrive(2);
        x.addCleaner(9, 2);
        dueNothing(x, NONE, r -> r.refill(0, 2));
        dueAct(x.again(), 2, r -> r.refill(0, 1));
        x.clean(0);
        x.clean(0);
        x.tick(8);
        dueNothing(x, NONE, r -> r.refill(0, 1));
        dueAct(x.again(), 1, r -> r.refill(0, 2));
        x.tick(8);
        due("none left: item(0, 4)", x.item(0, 4), 0);
        dueNothing(x, BAD_VALUE, r -> r.refill(0, 0));
        dueAct(x, 0, r -> r.refill(0, 50));
        title("5: a cleaner that is in the hand or in a drive is given uses, too");
        Robot y = busy();
        due("in the hand: count(2)", y.count(2), 6);
        dueNothing(y, NONE, r -> r.refill(6, 2));
        dueAct(y, 2, r -> r.refill(6, 1));
        y.tick(3);
        due("item(6, 4)", y.item(6, 4), 0);
        due("in a drive: item(6, 2)", y.item(6, 2), 2);
        dueAct(y, 0, r -> r.refill(6, 7));
    }

    private void checksOfRefill() {
        title("5: UNKNOWN; BAD_VALUE; NOT_POSSIBLE if it is a tape; NONE if it has so many");
        Robot x = new Robot();
        x.addDrive(2);
        x.addTape(3, 0);
        x.addCleaner(9, 5);
        x.read(0);
        x.tick(8);
        for (int item : new int[] {-1, 2, 18, LEAST, MOST}) {
            dueNothing(x, UNKNOWN, r -> r.refill(item, 0));
            dueNothing(x, UNKNOWN, r -> r.refill(item, 5));
        }
        dueNothing(x, BAD_VALUE, r -> r.refill(0, 51));
        dueNothing(x, BAD_VALUE, r -> r.refill(1, 51));
        dueNothing(x, NOT_POSSIBLE, r -> r.refill(0, 5));
        dueNothing(x, "a tape with one read: ", NOT_POSSIBLE, r -> r.refill(0, 1));
        dueNothing(x, NONE, r -> r.refill(1, 5));
    }

    // ---- promises 6 and 7

    private void limits() {
        title("6: a limit from 1.0f to 1000.0f");
        float[] good = {1.0f, Math.nextUp(1.0f), 1.9999999f, 2.0f, 3.1415927f, 19.999998f, 512.0f, Math.nextDown(1000.0f),
            1000.0f};
        for (float limit : good) {
            Robot x = new Robot();
            dueAct(x, 1, r -> r.setLimit(bits(limit)));
            due("meter(1)", x.meter(1), limit);
        }
        dueNothing(busy(), BAD_VALUE, x -> x.setLimit(bits(1.0f) - 1));
        dueNothing(busy(), BAD_VALUE, x -> x.setLimit(bits(1000.0f) + 1));
        for (int limit : NO_AMOUNTS) {
            dueNothing(new Robot(), BAD_VALUE, x -> x.setLimit(limit));
        }
        for (int limit : new int[] {0, 1, HALF, bits(0.99999994f)}) {
            dueNothing(new Robot(), BAD_VALUE, x -> x.setLimit(limit));
        }
    }

    private void limitsThatAreSoAlready() {
        title("6: NONE if it is so already; at first it is 20.0f");
        Robot x = new Robot();
        dueNothing(x, NONE, r -> r.setLimit(bits(20.0f)));
        dueAct(x.again(), 1, r -> r.setLimit(bits(20.0f) + 1));
        dueAct(x, 1, r -> r.setLimit(bits(20.0f) - 1));
        dueNothing(x, NONE, r -> r.setLimit(bits(20.0f) - 1));
        dueAct(x, 1, r -> r.setLimit(bits(20.0f)));
        dueNothing(x, NONE, r -> r.setLimit(bits(20.0f)));
        x.undo();
        dueNothing(x, "behind undo(): ", NONE, r -> r.setLimit(bits(20.0f) - 1));
        title("6: a limit may be below the meter");
        Robot y = busy();
        y.tick(1);
        due("the meter is more than 1.0f", y.meter(0) > 1.0f ? 1 : 0, 1);
        float meter = y.meter(0);
        dueAct(y, 1, r -> r.setLimit(bits(1.0f)));
        due("meter(0)", y.meter(0), meter);
    }

    private void ceilings() {
        title("7: a ceiling from 1.0f to 500.0f");
        float[] good = {1.0f, Math.nextUp(1.0f), 7.9999995f, 255.99998f, 256.0f, Math.nextDown(500.0f), 500.0f};
        for (float ceiling : good) {
            Robot x = new Robot();
            x.addDrive(3);
            x.addDrive(4);
            dueAct(x, 1, r -> r.setCeiling(1, bits(ceiling)));
            due("ceiling(1)", x.ceiling(1), ceiling);
            due("ceiling(0)", x.ceiling(0), 8.0f);
        }
        dueNothing(busy(), BAD_VALUE, x -> x.setCeiling(0, bits(1.0f) - 1));
        dueNothing(busy(), BAD_VALUE, x -> x.setCeiling(1, bits(500.0f) + 1));
        for (int ceiling : NO_AMOUNTS) {
            dueNothing(busy(), BAD_VALUE, x -> x.setCeiling(0, ceiling));
        }
        for (int ceiling : new int[] {0, 1, HALF, bits(501.0f), bits(1000.0f)}) {
            dueNothing(busy(), BAD_VALUE, x -> x.setCeiling(0, ceiling));
        }
    }

    private void ceilingsThatAreSoAlready() {
        title("7: NONE if it is so already; at first it is 8.0f");
        Robot x = new Robot();
        x.addDrive(3);
        x.addDrive(4);
        dueNothing(x, NONE, r -> r.setCeiling(0, bits(8.0f)));
        dueNothing(x, NONE, r -> r.setCeiling(1, bits(8.0f)));
        dueAct(x.again(), 1, r -> r.setCeiling(1, bits(8.0f) + 1));
        dueAct(x, 1, r -> r.setCeiling(1, bits(8.0f) - 1));
        dueNothing(x, NONE, r -> r.setCeiling(1, bits(8.0f) - 1));
        dueNothing(x, NONE, r -> r.setCeiling(0, bits(8.0f)));
        dueAct(x, 1, r -> r.setCeiling(0, bits(8.0f) - 1));
        dueAct(x, 1, r -> r.setCeiling(1, bits(8.0f)));
    }

    private void checksOfSetCeiling() {
        title("7: UNKNOWN; BAD_VALUE; NONE if it is so already");
        Robot x = new Robot();
        for (int drive : new int[] {-1, 0, 1, 4, LEAST, MOST}) {
            dueNothing(x, UNKNOWN, r -> r.setCeiling(drive, bits(8.0f)));
            dueNothing(x, UNKNOWN, r -> r.setCeiling(drive, 0));
        }
        for (int drive = 0; drive < 4; drive++) {
            int next = drive + 1;
            x.addDrive(drive);
            dueNothing(x, UNKNOWN, r -> r.setCeiling(next, bits(9.0f)));
            dueAct(x, 1, r -> r.setCeiling(next - 1, bits(9.0f)));
        }
        dueNothing(x, UNKNOWN, r -> r.setCeiling(-1, bits(9.0f)));
        dueNothing(x, BAD_VALUE, r -> r.setCeiling(3, 0));
    }

    // ---- promise 8

    private void ordersOfKinds() {
        title("8: one of both is not 0 to 2, or they are the same");
        for (int first = -2; first < 5; first++) {
            for (int second = -2; second < 5; second++) {
                dueOrderOfKinds(first, second);
            }
        }
        int[][] far = {{LEAST, 0}, {0, LEAST}, {MOST, 1}, {1, MOST}, {LEAST, MOST}, {MOST, MOST}, {-1, 4}, {4, -1}};
        for (int[] kinds : far) {
            dueNothing(new Robot(), BAD_VALUE, x -> x.setOrder(kinds[0], kinds[1]));
        }
    }

    private void dueOrderOfKinds(int first, int second) {
        boolean good = first >= 0 && first <= 2 && second >= 0 && second <= 2 && first != second;
        if (!good) {
            dueNothing(busy(), BAD_VALUE, x -> x.setOrder(first, second));
        } else if (first == 0 && second == 1) {
            dueNothing(busy(), NONE, x -> x.setOrder(first, second));
        } else {
            dueAct(busy(), 3 - first - second, x -> x.setOrder(first, second));
        }
    }

    private void ordersThatAreSoAlready() {
        title("8: NONE if it is so already; at first it is 0, 1");
        int[][] orders = {{0, 2}, {2, 0}, {2, 1}, {1, 2}, {1, 0}, {0, 1}};
        Robot x = new Robot();
        dueNothing(x, NONE, r -> r.setOrder(0, 1));
        for (int[] kinds : orders) {
            dueAct(x, 3 - kinds[0] - kinds[1], r -> r.setOrder(kinds[0], kinds[1]));
            dueNothing(x, NONE, r -> r.setOrder(kinds[0], kinds[1]));
            dueNothing(x, BAD_VALUE, r -> r.setOrder(kinds[0], kinds[0]));
        }
        x.undo();
        dueNothing(x, "behind undo(): ", NONE, r -> r.setOrder(1, 0));
    }
}
