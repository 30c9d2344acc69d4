/** The document's "What it is", "Files and days" and "Seals and reservations". */
final class FileCases extends Cases {
    private static final String FILES = "Files and days";
    private static final String SEALS = "Seals and reservations";
    private static final String NOW =
        "Days are counted from 0; there is a day of now, 0 at first and 9999 at most.";
    private static final String FILE = "A file has a number, a kind (0 to 4), pages (1 to 50), the day on which it "
        + "came, the day on which it was asked for the latest time (none at first), how often it was asked, at most "
        + "one file to which it refers, and seals.";
    private static final String NUMBERS =
        "The files get the numbers 0, 1, 2 and so on in the order in which they come; no number is used again.";
    private static final String ROOM = "At most 24 files are stored at a time, and at most 200 files can come in all.";
    private static final String SETTINGS = "The settings are (range; first value): PERIOD of the kinds 0 to 4 (30 to "
        + "2000 days; 90, 180, 360, 720, 1440), LOYAL (1 to 20; 3) and SHELF (50 to 600 pages; 300).";
    private static final String PAGES = "The stored files never have more pages than SHELF together when a file comes;";
    private static final String DUE = "A file is due on the day that is its period after the day on which it was asked "
        + "for the latest time, or after the day on which it came if it was not asked so far;";
    private static final String PERIOD = "its period is PERIOD of its kind, or twice as much if it was asked LOYAL "
        + "times or more.";
    private static final String ONE_SEAL =
        "A holder can put one seal on a file; a seal has a last day, or none.";
    private static final String HOLDS = "A seal holds on a day if it has no last day, or if its last day is not before "
        + "this day.";
    private static final String OLD_SEAL = "A seal that does not hold any more stays until it is lifted, or replaced "
        + "by another one of the same holder.";
    private static final String RESERVATION = "A reservation consists of a file and a day after now.";
    private static final String EIGHT =
        "There are at most 8 reservations, no two of them for the same file and the same day.";
    private static final String DAY_COMES =
        "When its day comes, the file is asked, and the reservation is removed.";

    private FileCases() {
    }

    // ---- What it is

    @Says(in = "What it is", text = "An object is used for at most 512 calls after it has been made;")
    static void theLastOf512CallsIsAnsweredLikeOthers(Check check) {
        Archive x = Archive.withFiles(24, 0, 12);
        while (x.callsLeft() > 1) {
            check.due("burntIn(" + x.callsLeft() % 24 + ")", x.burntIn(x.callsLeft() % 24), 90);
        }
        check.due("pass(90) as the call 512", x.pass(90), 24);
    }

    @Says(in = "What it is", text = "An object is used for at most 512 calls after it has been made;")
    static void allOf512CallsCanBeActions(Check check) {
        Archive x = Archive.withFiles(1, 0, 1);
        while (x.callsLeft() > 3) {
            int asked = Archive.CALLS - x.callsLeft();
            check.due("ask(0) as the call " + (asked + 1), x.ask(0), asked);
        }
        check.due("count(5)", x.count(5), 508);
        check.due("undo()", x.undo(), 3);
        check.due("file(0, 4)", x.file(0, 4), 507);
    }

    // ---- Files and days

    @Says(in = FILES, text = NOW)
    static void nowIsZeroAtFirst(Check check) {
        check.due("now()", new Archive().now(), 0);
    }

    @Says(in = FILES, text = NOW)
    static void nowCanBe9999(Check check) {
        Archive x = Archive.onDay(9998);
        check.due("pass(1)", x.pass(1), 0);
        check.due("now()", x.now(), 9999);
    }

    @Says(in = FILES, text = NOW)
    static void nowIsNeverAbove9999(Check check) {
        Archive x = Archive.onDay(9999);
        check.due("pass(1)", x.pass(1), NOT_POSSIBLE);
        check.due("pass(400)", x.pass(400), NOT_POSSIBLE);
        check.due("run() of d1", x.runOf("d1"), 0);
        check.due("now()", x.now(), 9999);
    }

    @Says(in = FILES, text = FILE)
    static void aNewFileHasNothing(Check check) {
        Archive x = Archive.withFiles(1, 4, 50);
        int[] due = {4, 50, 0, NONE, 0, NONE, 1440, 0, 0, 0};
        for (int what = 0; what < due.length; what++) {
            check.due("file(0, " + what + ")", x.file(0, what), due[what]);
        }
    }

    @Says(in = FILES, text = FILE)
    static void aFileInTheRoomOfABurntOneHasNothing(Check check) {
        Archive x = Archive.withFiles(1, 0, 1);
        x.seal(5, 0, 3);
        x.refer(0, 0);
        x.ask(0);
        x.pass(90);
        check.due("add(1, 2)", x.add(1, 2), 1);
        int[] due = {1, 2, 90, NONE, 0, NONE, 270, 0, 0, 0};
        for (int what = 0; what < due.length; what++) {
            check.due("file(1, " + what + ")", x.file(1, what), due[what]);
        }
        check.due("sealOf(5, 1)", x.sealOf(5, 1), NONE);
    }

    @Says(in = FILES, text = FILE)
    static void aFileRefersToOneFileAtMost(Check check) {
        Archive x = Archive.withFiles(3, 0, 1);
        x.refer(0, 1);
        x.refer(0, 2);
        check.due("file(0, 5)", x.file(0, 5), 2);
        check.due("file(1, 8)", x.file(1, 8), 0);
        check.due("file(2, 8)", x.file(2, 8), 1);
    }

    @Says(in = FILES, text = NUMBERS)
    static void numbersBeginWith0AndFollowOneAnother(Check check) {
        Archive x = new Archive();
        for (int number = 0; number < 24; number++) {
            check.due("add(0, 1)", x.add(0, 1), number);
            check.due("fileAt(" + number + ")", x.fileAt(number), number);
        }
    }

    @Says(in = FILES, text = NUMBERS)
    static void noNumberOfABurntFileIsUsedAgain(Check check) {
        Archive x = Archive.withFiles(3, 0, 1);
        x.pass(90);
        check.due("fileAt(0) after the burning", x.fileAt(0), NONE);
        check.due("add(0, 1)", x.add(0, 1), 3);
        check.due("fileAt(0)", x.fileAt(0), 3);
    }

    @Says(in = FILES, text = NUMBERS)
    static void aRefusedFileUsesNoNumber(Check check) {
        Archive x = Archive.withFiles(1, 0, 1);
        x.add(5, 1);
        x.add(0, 51);
        check.due("add(0, 1)", x.add(0, 1), 1);
    }

    @Says(in = FILES, text = ROOM)
    static void the24thFileComesAndThe25thDoesNot(Check check) {
        Archive x = Archive.withFiles(23, 0, 1);
        check.due("the 24th", x.add(0, 1), 23);
        check.due("the 25th", x.add(0, 1), TOO_MANY);
        check.due("count(0)", x.count(0), 24);
    }

    @Says(in = FILES, text = ROOM)
    static void aBurntFileLeavesRoomForOne(Check check) {
        Archive x = Archive.withFiles(23, 1, 1);
        x.add(0, 1);
        check.due("pass(90)", x.pass(90), 1);
        check.due("a file in its room", x.add(0, 1), 24);
        check.due("a second one", x.add(0, 1), TOO_MANY);
    }

    @Says(in = FILES, text = ROOM)
    static void the200thFileComesAndThe201stDoesNot(Check check) {
        Archive x = Archive.usedUp();
        check.due("undo() of the burning", x.undo(), 3);
        check.due("undo() of the 200th", x.undo(), 2);
        check.due("count(1)", x.count(1), 199);
        check.due("the 200th", x.add(0, 1), 199);
        check.due("the 201st", x.add(0, 1), TOO_MANY);
    }

    @Says(in = FILES, text = ROOM)
    static void the201stFileDoesNotComeIntoAnEmptyArchive(Check check) {
        Archive x = Archive.usedUp();
        check.due("count(0)", x.count(0), 0);
        check.due("count(1)", x.count(1), 200);
        check.due("the 201st", x.add(0, 1), TOO_MANY);
    }

    @Says(in = FILES, text = SETTINGS)
    static void theFirstValuesOfSettings(Check check) {
        int[] due = {90, 180, 360, 720, 1440, 3, 300};
        Archive x = new Archive();
        for (int setting = 0; setting < due.length; setting++) {
            check.due("setting(" + setting + ")", x.setting(setting), due[setting]);
        }
    }

    @Says(in = FILES, text = SETTINGS)
    static void theSmallestAndLargestPeriods(Check check) {
        for (int kind = 0; kind <= 4; kind++) {
            int setting = kind;
            Archive x = Archive.withFiles(1, kind, 1);
            x.set(setting, 30);
            check.due("file(0, 6) with 30 of " + kind, x.file(0, 6), 30);
            x.set(setting, 2000);
            check.due("file(0, 6) with 2000 of " + kind, x.file(0, 6), 2000);
            refusedBeyond(check, "set(" + setting + ", x)", Cases::someFiles, (y, value) -> y.set(setting, value),
                30, 2000, BAD_VALUE);
        }
    }

    @Says(in = FILES, text = SETTINGS)
    static void theSmallestAndLargestLoyalty(Check check) {
        Archive x = Archive.withFiles(1, 0, 1);
        x.set(LOYAL, 1);
        x.ask(0);
        check.due("file(0, 6), asked once, LOYAL 1", x.file(0, 6), 180);
        x.set(LOYAL, 20);
        for (int asked = 2; asked <= 19; asked++) {
            x.ask(0);
        }
        check.due("file(0, 6), asked 19 times, LOYAL 20", x.file(0, 6), 90);
        x.ask(0);
        check.due("file(0, 6), asked 20 times, LOYAL 20", x.file(0, 6), 180);
        refusedBeyond(check, "set(LOYAL, x)", Cases::someFiles, (y, value) -> y.set(LOYAL, value), 1, 20, BAD_VALUE);
    }

    @Says(in = FILES, text = SETTINGS)
    static void theSmallestAndLargestShelf(Check check) {
        Archive small = new Archive();
        small.set(SHELF, 50);
        check.due("add(0, 50) with SHELF 50", small.add(0, 50), 0);
        check.due("add(0, 1) with SHELF 50", small.add(0, 1), TOO_MANY);
        Archive large = new Archive();
        large.set(SHELF, 600);
        for (int number = 0; number < 12; number++) {
            check.due("add(0, 50) with SHELF 600", large.add(0, 50), number);
        }
        check.due("add(0, 1) with SHELF 600", large.add(0, 1), TOO_MANY);
        refusedBeyond(check, "set(SHELF, x)", Cases::someFiles, (y, value) -> y.set(SHELF, value), 50, 600, BAD_VALUE);
    }

    @Says(in = FILES, text = PAGES)
    static void aFileThatFillsTheShelfComes(Check check) {
        Archive x = Archive.withFiles(5, 0, 50);
        check.due("add(0, 49)", x.add(0, 49), 5);
        check.due("add(0, 2)", x.add(0, 2), TOO_MANY);
        check.due("add(0, 1)", x.add(0, 1), 6);
        check.due("count(2)", x.count(2), 300);
        check.due("add(0, 1)", x.add(0, 1), TOO_MANY);
    }

    @Says(in = FILES, text = PAGES)
    static void pagesOfBurntFilesDoNotCount(Check check) {
        Archive x = Archive.withFiles(6, 0, 50);
        x.pass(90);
        check.due("count(2)", x.count(2), 0);
        check.due("add(0, 50)", x.add(0, 50), 6);
    }

    @Says(in = FILES, text = "if SHELF is made smaller, they stay.")
    static void theFilesOfASmallerShelfStay(Check check) {
        Archive x = Archive.withFiles(6, 1, 50);
        check.due("set(SHELF, 50)", x.set(SHELF, 50), 300);
        check.due("count(0)", x.count(0), 6);
        check.due("count(2)", x.count(2), 300);
        check.due("add(0, 1)", x.add(0, 1), TOO_MANY);
        check.due("pass(90)", x.pass(90), 0);
        check.due("count(0) after a burning", x.count(0), 6);
        x.set(SHELF, 301);
        check.due("add(0, 1) with a larger one", x.add(0, 1), 6);
    }

    @Says(in = FILES, text = DUE)
    static void aFileThatWasNotAskedIsDueItsPeriodAfterItCame(Check check) {
        Archive x = Archive.onDay(7);
        x.add(0, 1);
        x.pass(50);
        check.due("file(0, 6)", x.file(0, 6), 97);
    }

    @Says(in = FILES, text = DUE)
    static void aFileIsDueItsPeriodAfterItWasAskedForTheLatestTime(Check check) {
        Archive x = Archive.withFiles(1, 0, 1);
        x.pass(20);
        x.ask(0);
        x.pass(30);
        x.ask(0);
        x.pass(10);
        check.due("file(0, 6)", x.file(0, 6), 140);
    }

    @Says(in = FILES, text = DUE)
    static void anAskingOnTheDay0CountsAsOne(Check check) {
        Archive x = Archive.withFiles(1, 0, 1);
        x.set(LOYAL, 1);
        x.ask(0);
        check.due("file(0, 3)", x.file(0, 3), 0);
        check.due("file(0, 6)", x.file(0, 6), 180);
    }

    @Says(in = FILES, text = DUE)
    static void aFileCanBeDueLongAfterTheLastDay(Check check) {
        Archive x = Archive.onDay(9999);
        x.add(4, 1);
        x.set(4, 2000);
        x.set(LOYAL, 1);
        x.ask(0);
        check.due("file(0, 6)", x.file(0, 6), 9999 + 4000);
    }

    @Says(in = FILES, text = PERIOD)
    static void aFileAskedLessThanLoyalTimesHasItsPeriodOnce(Check check) {
        Archive x = Archive.withFiles(1, 3, 1);
        x.ask(0);
        x.ask(0);
        check.due("file(0, 6)", x.file(0, 6), 720);
    }

    @Says(in = FILES, text = PERIOD)
    static void aFileAskedLoyalTimesHasItsPeriodTwice(Check check) {
        Archive x = Archive.withFiles(1, 3, 1);
        x.ask(0);
        x.ask(0);
        x.ask(0);
        check.due("file(0, 6)", x.file(0, 6), 1440);
    }

    @Says(in = FILES, text = PERIOD)
    static void aFileAskedMoreThanLoyalTimesHasItsPeriodTwice(Check check) {
        Archive x = Archive.withFiles(1, 3, 1);
        for (int asked = 1; asked <= 9; asked++) {
            x.ask(0);
        }
        check.due("file(0, 6)", x.file(0, 6), 1440);
    }

    @Says(in = FILES, text = PERIOD)
    static void settingsOfNowMakeThePeriod(Check check) {
        Archive x = Archive.withFiles(1, 3, 1);
        x.ask(0);
        x.ask(0);
        x.ask(0);
        x.set(LOYAL, 4);
        check.due("file(0, 6) with a higher LOYAL", x.file(0, 6), 720);
        x.set(3, 100);
        check.due("file(0, 6) with a shorter PERIOD", x.file(0, 6), 100);
        x.set(2, 50);
        check.due("file(0, 6) with a PERIOD of another kind", x.file(0, 6), 100);
    }

    // ---- Seals and reservations

    @Says(in = SEALS, text = "There are the holders 0 to 7.")
    static void eightHoldersCanSealAFile(Check check) {
        Archive x = Archive.withFiles(1, 0, 1);
        for (int holder = 0; holder < 8; holder++) {
            check.due("seal(" + holder + ", 0, -1)", x.seal(holder, 0, -1), holder + 1);
            check.due("file(0, 7)", x.file(0, 7), (2 << holder) - 1);
        }
        check.due("sealOf(7, 0)", x.sealOf(7, 0), 10000);
        check.due("lift(7, 0)", x.lift(7, 0), 7);
        check.due("lift(0, 0)", x.lift(0, 0), 6);
    }

    @Says(in = SEALS, text = "There are the holders 0 to 7.")
    static void thereAreNoOtherHolders(Check check) {
        for (int holder : new int[] {-1, 8, LOWEST, HIGHEST}) {
            refused(check, "seal(" + holder + ", 1, -1)", Cases::someFiles, x -> x.seal(holder, 1, -1), NO_SUCH);
            refused(check, "lift(" + holder + ", 2)", Cases::someFiles, x -> x.lift(holder, 2), NO_SUCH);
            refused(check, "sealOf(" + holder + ", 2)", Cases::someFiles, x -> x.sealOf(holder, 2), NO_SUCH);
        }
    }

    @Says(in = SEALS, text = ONE_SEAL)
    static void aHolderHasOneSealOnAFile(Check check) {
        Archive x = Archive.withFiles(2, 0, 1);
        check.due("seal(4, 0, 7)", x.seal(4, 0, 7), 1);
        check.due("seal(4, 0, 9)", x.seal(4, 0, 9), 1);
        check.due("seal(4, 1, 8)", x.seal(4, 1, 8), 1);
        check.due("sealOf(4, 0)", x.sealOf(4, 0), 9);
        check.due("lift(4, 0)", x.lift(4, 0), 0);
        check.due("lift(4, 0) again", x.lift(4, 0), NO_SUCH);
        check.due("sealOf(4, 1)", x.sealOf(4, 1), 8);
    }

    @Says(in = SEALS, text = ONE_SEAL)
    static void aSealHasALastDayOrNone(Check check) {
        Archive x = Archive.withFiles(1, 0, 1);
        x.seal(0, 0, 0);
        x.seal(1, 0, 9999);
        x.seal(2, 0, -1);
        check.due("sealOf(0, 0)", x.sealOf(0, 0), 0);
        check.due("sealOf(1, 0)", x.sealOf(1, 0), 9999);
        check.due("sealOf(2, 0)", x.sealOf(2, 0), 10000);
    }

    @Says(in = SEALS, text = HOLDS)
    static void aSealHoldsOnItsLastDayAndNotOnTheNext(Check check) {
        Archive x = Archive.withFiles(1, 0, 1);
        x.seal(6, 0, 5);
        x.pass(4);
        check.due("file(0, 7) on the day before", x.file(0, 7), 64);
        x.pass(1);
        check.due("file(0, 7) on the last day", x.file(0, 7), 64);
        x.pass(1);
        check.due("file(0, 7) on the next day", x.file(0, 7), 0);
    }

    @Says(in = SEALS, text = HOLDS)
    static void aSealUpToNowHoldsOnTheDay0(Check check) {
        Archive x = Archive.withFiles(1, 0, 1);
        check.due("seal(0, 0, 0)", x.seal(0, 0, 0), 1);
        x.pass(1);
        check.due("file(0, 7)", x.file(0, 7), 0);
    }

    @Says(in = SEALS, text = HOLDS)
    static void aSealWithoutALastDayHoldsOnTheDay9999(Check check) {
        Archive x = Archive.withFiles(1, 0, 1);
        x.seal(1, 0, -1);
        x.letPass(9999);
        check.due("file(0, 7)", x.file(0, 7), 2);
        check.due("stays(0)", x.stays(0), 2);
    }

    @Says(in = SEALS, text = HOLDS)
    static void aSealWithoutALastDayHoldsAfterTheDay9999(Check check) {
        Archive x = Archive.withFiles(2, 0, 3);
        x.seal(1, 0, -1);
        x.seal(1, 1, 9999);
        x.letPass(9999);
        check.due("burntIn(0)", x.burntIn(0), NONE);
        check.due("burntIn(1), sealed up to 9999", x.burntIn(1), 81);
        check.due("ifPassed(80, 0)", x.ifPassed(80, 0), 0);
        check.due("ifPassed(400, 0)", x.ifPassed(400, 0), 1);
    }

    @Says(in = SEALS, text = OLD_SEAL)
    static void anOldSealStaysUntilItIsLifted(Check check) {
        Archive x = Archive.withFiles(1, 4, 1);
        x.seal(2, 0, 10);
        x.letPass(500);
        check.due("file(0, 7)", x.file(0, 7), 0);
        check.due("sealOf(2, 0)", x.sealOf(2, 0), 10);
        check.due("lift(2, 0)", x.lift(2, 0), 0);
        check.due("sealOf(2, 0)", x.sealOf(2, 0), NONE);
        check.due("lift(2, 0) again", x.lift(2, 0), NO_SUCH);
    }

    @Says(in = SEALS, text = OLD_SEAL)
    static void anOldSealIsReplacedByTheSameHolderOnly(Check check) {
        Archive x = Archive.withFiles(1, 4, 1);
        x.seal(2, 0, 10);
        x.pass(11);
        check.due("seal(3, 0, 20)", x.seal(3, 0, 20), 1);
        check.due("sealOf(2, 0)", x.sealOf(2, 0), 10);
        check.due("seal(2, 0, 30)", x.seal(2, 0, 30), 2);
        check.due("sealOf(2, 0)", x.sealOf(2, 0), 30);
    }

    @Says(in = SEALS, text = RESERVATION)
    static void aReservationIsForTheNextDayAtTheEarliest(Check check) {
        Archive x = Archive.withFiles(1, 0, 1);
        x.pass(5);
        check.due("reserve(0, 4)", x.reserve(0, 4), BAD_VALUE);
        check.due("reserve(0, 5)", x.reserve(0, 5), BAD_VALUE);
        check.due("reserve(0, 6)", x.reserve(0, 6), 1);
    }

    @Says(in = SEALS, text = EIGHT)
    static void theEighthReservationIsTakenAndTheNinthIsNot(Check check) {
        Archive x = Archive.withFiles(1, 0, 1);
        for (int day = 1; day <= 8; day++) {
            check.due("reserve(0, " + day + ")", x.reserve(0, day), day);
        }
        check.due("reserve(0, 9)", x.reserve(0, 9), TOO_MANY);
        check.due("count(8)", x.count(8), 8);
        check.due("cancel(0, 3)", x.cancel(0, 3), 7);
        check.due("reserve(0, 9) after that", x.reserve(0, 9), 8);
    }

    @Says(in = SEALS, text = EIGHT)
    static void noTwoReservationsAreForTheSameFileAndDay(Check check) {
        Archive x = Archive.withFiles(2, 0, 1);
        check.due("reserve(0, 5)", x.reserve(0, 5), 1);
        check.due("reserve(0, 5) again", x.reserve(0, 5), NOT_POSSIBLE);
        check.due("the same day, another file", x.reserve(1, 5), 2);
        check.due("the same file, another day", x.reserve(0, 6), 3);
    }

    @Says(in = SEALS, text = DAY_COMES)
    static void onItsDayAndNotBeforeTheFileIsAsked(Check check) {
        Archive x = Archive.withFiles(1, 0, 1);
        x.reserve(0, 5);
        x.pass(4);
        check.due("file(0, 4) on the day before", x.file(0, 4), 0);
        check.due("count(8) on the day before", x.count(8), 1);
        x.pass(1);
        check.due("file(0, 4)", x.file(0, 4), 1);
        check.due("file(0, 3)", x.file(0, 3), 5);
        check.due("count(5)", x.count(5), 1);
        check.due("count(8)", x.count(8), 0);
        x.pass(1);
        check.due("file(0, 4) on the next day", x.file(0, 4), 1);
    }

    @Says(in = SEALS, text = DAY_COMES)
    static void allEightReservationsOfADayAreTreated(Check check) {
        Archive x = Archive.withFiles(9, 0, 1);
        for (int file = 8; file > 0; file--) {
            x.reserve(file, 2);
        }
        x.pass(2);
        check.due("count(8)", x.count(8), 0);
        check.due("count(5)", x.count(5), 8);
        check.due("file(0, 4)", x.file(0, 4), 0);
        check.due("file(1, 3)", x.file(1, 3), 2);
        check.due("file(8, 3)", x.file(8, 3), 2);
    }

    @Says(in = SEALS, text = DAY_COMES)
    static void aReservationOfTheDay9999IsTreated(Check check) {
        Archive x = Archive.withFiles(1, 0, 1);
        x.reserve(0, 9999);
        x.letPass(9998);
        check.due("count(8) on the day before", x.count(8), 1);
        x.pass(1);
        check.due("file(0, 3)", x.file(0, 3), 9999);
        check.due("count(8)", x.count(8), 0);
    }
}
