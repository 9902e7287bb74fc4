/** The edges that the document names of texts and of the jobs that are read from them: promises 15 to 17. */
final class TextEdgesTest extends RobotChecks {
    private static final String DIGITS = "0123456789";

    public static void main(String[] args) {
        TextEdgesTest test = new TextEdgesTest();
        test.typing();
        test.faults();
        test.jobsOfTexts();
        test.end();
    }

    private void typing() {
        sixtyCharacters();
        anyCharacter();
        theLengthThatItHad();
        textsAreNoActs();
    }

    private void faults() {
        charactersAtTheirPlaces();
        textsThatEndTooEarly();
        numbersWithZerosInFront();
        faultsOfLongTexts();
        existencePlaysNoPart();
        aFaultChangesNothing();
    }

    private void jobsOfTexts() {
        oneOrMoreJobs();
        theFirstJobForWhichItIsSo();
        whatTheTextsNumbersReach();
        roomForAllJobs();
        checksOfReadJobs();
        allOfThemOrNone();
        oneActAndTheTextStays();
    }

    private static Robot typed(String text) {
        Robot x = new Robot();
        x.typeAll(text);
        return x;
    }

    private static String repeated(String part, int times) {
        StringBuilder text = new StringBuilder();
        for (int i = 0; i < times; i++) {
            text.append(part);
        }
        return text.toString();
    }

    // ---- promises 15 and 16

    private void sixtyCharacters() {
        title("15: a text of at most 60 characters, empty at first; FULL if it has 60 characters");
        Robot x = new Robot();
        for (int length = 0; length < 60; length++) {
            due("count(19)", x.count(19), length);
            due("type", x.type((char) ('a' + length % 26)), length + 1);
        }
        due("count(19)", x.count(19), 60);
        for (char character : new char[] {'r', ';', 0, Character.MAX_VALUE}) {
            dueNothing(x, FULL, r -> r.type(character));
        }
        due("clearText()", x.clearText(), 60);
        due("type", x.type('r'), 1);
        title("15: the sixtieth character is one of the text, the next one is none");
        Robot y = typed(repeated("r0;", 19) + "r0");
        due("-100 minus the length, which is no fault: UNKNOWN", y.readJobs(), UNKNOWN);
        due("type", y.type('1'), 60);
        due("readJobs()", y.readJobs(), -159);
        due("type", y.type('1'), FULL);
        due("readJobs()", y.readJobs(), -159);
    }

    private void anyCharacter() {
        title("15: any character");
        char[] some = {0, 1, 9, ' ', '"', '0', '9', ';', '>', 'c', 'm', 'r', 127, 128, 255, 256, 0x660, 0x7FFF, 0x8000,
            0xD800, 0xDFFF, 0xFFFE, Character.MAX_VALUE};
        Robot x = new Robot();
        for (int i = 0; i < some.length; i++) {
            due("type(" + (int) some[i] + ")", x.type(some[i]), i + 1);
        }
        due("clearText()", x.clearText(), some.length);
        due("type", x.type('r'), 1);
        due("readJobs()", x.readJobs(), -101);
    }

    private void theLengthThatItHad() {
        title("16: the length that it had");
        for (int length : new int[] {0, 1, 59, 60}) {
            Robot x = typed(repeated("m", length));
            due("clearText()", x.clearText(), length);
            due("count(19)", x.count(19), 0);
            due("clearText()", x.clearText(), 0);
            due("readJobs()", x.readJobs(), -100);
        }
        Robot full = typed(repeated("m", 60));
        full.type('m');
        due("behind one that was FULL: clearText()", full.clearText(), 60);
    }

    private void textsAreNoActs() {
        title("15, 16: to type and to empty the text are no acts");
        Robot x = busy();
        String state = Told.state(x);
        int states = x.count(18);
        x.type(';');
        x.clearText();
        x.type('r');
        due("count(18)", x.count(18), states);
        due("the state", Told.state(x), state);
        x.undo();
        due("the text is no part of a state: count(19)", x.count(19), 1);
        x.restore();
        due("count(19)", x.count(19), 1);
        due("readJobs()", x.readJobs(), -101);
    }

    // ---- the faults of texts

    /** The characters that are allowed behind this text are these, all others are faults at its end. */
    private void dueCharacters(String before, String allowed) {
        for (char character = 0; character < 400; character++) {
            dueCharacter(before, allowed, character);
        }
        char[] far = {0x660, 0x669, 0x966, 0xFF10, 0xFF19, 0xFF1B, 0xFF1E, 0xFF52, 0x3B00, 0x7200, 0x8030, 0xD800, 0xFFFF};
        for (char character : far) {
            dueCharacter(before, allowed, character);
        }
    }

    private void dueCharacter(String before, String allowed, char character) {
        Robot x = typed(before);
        x.type(character);
        int answer = x.readJobs();
        String words = "readJobs() of " + before + " and the character " + (int) character;
        if (allowed.indexOf(character) < 0) {
            due(words, answer, -100 - before.length());
        } else {
            // Without items and drives it is UNKNOWN if the text may end there, or else it ends too early.
            boolean complete = answer == UNKNOWN || answer == -100 - before.length() - 1;
            due(words + ", which is allowed: " + answer, complete ? 1 : 0, 1);
        }
    }

    private void charactersAtTheirPlaces() {
        title("17: the fault is the index of the first character that is not allowed at its place");
        for (String before : new String[] {"", "r0;", "c12;m3>4;"}) {
            dueCharacters(before, "rcm");
            dueCharacters(before + "r", DIGITS);
            dueCharacters(before + "c", DIGITS);
            dueCharacters(before + "m", DIGITS);
            dueCharacters(before + "m5>", DIGITS);
            for (String job : new String[] {"r", "c", "m17>"}) {
                dueCharacters(before + job + "0", ";");
                dueCharacters(before + job + "1", DIGITS + ";");
                dueCharacters(before + job + "9", DIGITS + ";");
                dueCharacters(before + job + "10", ";");
                dueCharacters(before + job + "99", ";");
            }
            dueCharacters(before + "m0", ">");
            dueCharacters(before + "m1", DIGITS + ">");
            dueCharacters(before + "m9", DIGITS + ">");
            dueCharacters(before + "m17", ">");
        }
        title("17: characters behind the first fault play no part");
        due("rr0", typed("rr0").readJobs(), -101);
        due("r0;;r0", typed("r0;;r0").readJobs(), -103);
        due("x", typed("x").readJobs(), -100);
        due("xx", typed("xx").readJobs(), -100);
        due("r000", typed("r000").readJobs(), -102);
        due("m0>100x", typed("m0>100x").readJobs(), -105);
    }

    private void textsThatEndTooEarly() {
        title("17: or the length of the text if it ends too early (the empty text does)");
        String[] texts = {"", "r", "c", "m", "m0", "m9", "m10", "m0>", "m10>", "r0;", "r10;", "c0;", "m1>2;", "r0;c",
            "r0;m1", "r0;m1>", "r0;r0;"};
        for (String text : texts) {
            dueNothing(typed(text), "the text " + text + ": ", -100 - text.length(), Robot::readJobs);
        }
        for (String text : new String[] {"r0", "c0", "m0>0", "r9", "r10", "m99>99", "r0;c9"}) {
            due("it does not end too early: " + text, typed(text).readJobs(), UNKNOWN);
        }
    }

    private void numbersWithZerosInFront() {
        title("17: a number has one or two digits, without zeros in front unless it is the single digit 0");
        String[] texts = {"r00", "r01", "r09", "r1", "r10", "r99", "r100", "c00", "c0", "c07", "m00>0", "m0>00", "m0>0",
            "m01>0", "m0>01", "m10>10", "m100>0", "m0>100", "m99>990"};
        int[] faults = {2, 2, 2, NONE, NONE, NONE, 3, 2, NONE, 2, 2, 4, NONE, 2, 4, NONE, 3, 5, 6};
        for (int i = 0; i < texts.length; i++) {
            due(texts[i], typed(texts[i]).readJobs(), faults[i] == NONE ? UNKNOWN : -100 - faults[i]);
        }
    }

    private void faultsOfLongTexts() {
        title("17: the faults of a text with 60 characters");
        due("a fault at the first", typed(repeated(";", 60)).readJobs(), -100);
        due("a fault at the last", typed(repeated("r0;", 19) + "r0x").readJobs(), -159);
        due("it ends too early", typed(repeated("r0;", 20)).readJobs(), -160);
        due("it ends too early", typed(repeated("r0;", 18) + "c1;m0>").readJobs(), -160);
        due("no fault", typed(repeated("r0;", 18) + "m10>10").readJobs(), UNKNOWN);
    }

    private void existencePlaysNoPart() {
        title("17: whether there are such items, drives and slots plays no part");
        due("a fault behind an item that there is not", typed("r99;x").readJobs(), -104);
        due("behind a drive", typed("c4;c").readJobs(), -104);
        due("behind a slot", typed("m0>24;").readJobs(), -106);
        Robot x = busy();
        due("a fault behind a cleaner that is read", x.readJobsOf("r6;r00"), -105);
        due("readJobs()", x.readJobsOf("r6;r99"), NOT_POSSIBLE);
    }

    private void aFaultChangesNothing() {
        title("17: a fault is an error, and changes nothing");
        for (String text : new String[] {"", "r0;", "r0;c0;x", "m1>5;m1>", "r0;r00"}) {
            Robot x = busy();
            x.clearText();
            x.typeAll(text);
            int fault = text.endsWith("x") || text.endsWith("00") ? text.length() - 1 : text.length();
            dueNothing(x, -100 - fault, Robot::readJobs);
        }
    }

    // ---- jobs of texts

    /** Tapes at 0 to 10, cleaners at 11 to 17 (the items 11 to 17), four drives. */
    private static Robot furnished() {
        Robot x = new Robot();
        for (int item = 0; item < 18; item++) {
            if (item < 11) {
                x.addTape(item, 0);
            } else {
                x.addCleaner(item, 5);
            }
        }
        for (int drive = 0; drive < 4; drive++) {
            x.addDrive(drive * 5);
        }
        return x;
    }

    private void oneOrMoreJobs() {
        title("17: a text of jobs is one or more jobs with \";\" between two");
        String[] texts = {"r10", "c3", "m17>23", "r0;r0", "m0>0;c0;r0", "c3;m11>10;r9;c0"};
        int[] jobs = {1, 1, 1, 2, 3, 4};
        for (int i = 0; i < texts.length; i++) {
            Robot x = furnished();
            x.typeAll(texts[i]);
            dueAct(x, texts[i] + ": ", jobs[i], Robot::readJobs);
            due("count(4)", x.count(4), jobs[i]);
            due("count(19)", x.count(19), texts[i].length());
        }
        Robot x = furnished();
        due("in their order", x.readJobsOf("m17>23;r10;c3;m0>0"), 4);
        dueJob(x, 0, 2, 17, 23, 0, NONE, NONE, NONE, NONE, NONE, NONE, 0, 0);
        dueJob(x, 1, 0, 10, NONE, 0, NONE, NONE, NONE, NONE, NONE, NONE, 0, 0);
        dueJob(x, 2, 1, 3, NONE, 0, NONE, NONE, NONE, NONE, NONE, NONE, 0, 0);
        dueJob(x, 3, 2, 0, 0, 0, NONE, NONE, NONE, NONE, NONE, NONE, 0, 0);
        due("behind those that there are", x.readJobsOf("c0"), 1);
        dueJob(x, 4, 1, 0, NONE, 0);
    }

    private void theFirstJobForWhichItIsSo() {
        title("17: of the first job for which it is so, UNKNOWN or NOT_POSSIBLE");
        String[] texts = {"r18", "r11", "r18;r11", "r11;r18", "r0;r18;r11", "r0;r11;r18", "c4;r11", "r11;c4", "m18>0;r17",
            "r17;m18>0", "m0>24;r17", "r17;m0>24", "r99;r11", "m11>24", "m11>23;r11;c4"};
        for (String text : texts) {
            int unknown = firstOf(text, "r18", "c4", "m18>0", "m0>24", "r99", "m11>24");
            int notPossible = firstOf(text, "r11", "r17");
            Robot x = furnished();
            x.typeAll(text);
            dueNothing(x, text + ": ", unknown < notPossible ? UNKNOWN : NOT_POSSIBLE, Robot::readJobs);
        }
    }

    private static int firstOf(String text, String... parts) {
        int first = text.length();
        for (String part : parts) {
            int at = text.indexOf(part);
            first = at >= 0 && at < first ? at : first;
        }
        return first;
    }

    private void whatTheTextsNumbersReach() {
        title("17: as read(), clean() or move() tells, for the last that there is and the first that there is not");
        String[] good = {"r0", "r10", "c0", "c3", "m0>0", "m0>23", "m17>0", "m17>23"};
        for (String text : good) {
            due(text, furnished().readJobsOf(text), 1);
        }
        for (String text : new String[] {"r18", "c4", "m18>0", "m0>24", "m0>99", "c99", "r99"}) {
            due(text, furnished().readJobsOf(text), UNKNOWN);
        }
        for (String text : new String[] {"r11", "r17"}) {
            due(text, furnished().readJobsOf(text), NOT_POSSIBLE);
        }
        due("an item that is added later", typed("r0").readJobs(), UNKNOWN);
        Robot x = typed("r0");
        x.addTape(5, 0);
        due("readJobs()", x.readJobs(), 1);
    }

    private static Robot withJobs(int jobs) {
        Robot x = furnished();
        for (int job = 0; job < jobs; job++) {
            x.clean(0);
        }
        return x;
    }

    private void dueRoom(int jobs, String text, int want) {
        Robot x = withJobs(jobs);
        x.typeAll(text);
        if (want > 0) {
            dueAct(x, jobs + " and " + text + ": ", want, Robot::readJobs);
            due("job(" + (jobs + want - 1) + ", 3)", x.job(jobs + want - 1, 3), 0);
        } else {
            dueNothing(x, jobs + " and " + text + ": ", want, Robot::readJobs);
        }
    }

    private void roomForAllJobs() {
        title("17: FULL if there would have been more than 30 jobs");
        dueRoom(29, "r0", 1);
        dueRoom(30, "r0", FULL);
        dueRoom(28, "r0;c0", 2);
        dueRoom(29, "r0;c0", FULL);
        dueRoom(27, "r0;c0;m0>0", 3);
        dueRoom(28, "r0;c0;m0>0", FULL);
        dueRoom(10, repeated("r0;", 19) + "r0", 20);
        dueRoom(11, repeated("r0;", 19) + "r0", FULL);
        dueRoom(30, repeated("r0;", 19) + "r0", FULL);
        title("17: withdrawn jobs take room, too");
        Robot x = withJobs(30);
        x.withdraw(3);
        due("readJobs()", x.readJobsOf("r0"), FULL);
    }

    private void checksOfReadJobs() {
        title("17: the fault; then UNKNOWN or NOT_POSSIBLE; FULL");
        dueRoom(30, "", -100);
        dueRoom(30, "r0;", -103);
        dueRoom(30, "r18;r11;", -108);
        dueRoom(30, "r0;r18", UNKNOWN);
        dueRoom(30, "r0;r11", NOT_POSSIBLE);
        dueRoom(30, "r0;r0", FULL);
        dueRoom(29, "r0;r0;r0;m0>24", UNKNOWN);
        dueRoom(29, "r0;r0;r0;r11", NOT_POSSIBLE);
    }

    private void allOfThemOrNone() {
        title("17: all of them, or none");
        for (String text : new String[] {"r0;r1;r18", "r0;r1;r11", "r0;r1;c4", "r0;r1;m0>24", "r0;r1;", "r0;r1;r00"}) {
            Robot x = furnished();
            due(text, x.readJobsOf(text) < 0 ? 1 : 0, 1);
            due("job(0, 0)", x.job(0, 0), UNKNOWN);
            due("count(4)", x.count(4), 0);
            due("the next job's number", x.read(0), 0);
        }
    }

    private void oneActAndTheTextStays() {
        title("17: this is one act, and the text stays");
        Robot x = furnished();
        x.typeAll("r0;c1;m2>20");
        for (int jobs = 3; jobs <= 30; jobs += 3) {
            due("readJobs()", x.readJobs(), 3);
            due("count(4)", x.count(4), jobs);
            due("count(19)", x.count(19), 11);
        }
        due("readJobs()", x.readJobs(), FULL);
        for (int left = 3; left >= 0; left--) {
            due("undo()", x.undo(), left);
            due("count(4)", x.count(4), 18 + 3 * left);
        }
        due("undo()", x.undo(), NONE);
        due("readJobs()", x.readJobs(), 3);
    }
}
