/** The document's promises 17 to 25: what there is. */
final class LookCases extends Cases {
    private static final String COUNTERS = "`what`: 0 for stored files; 1 for files that came; 2 for pages of stored files; "
        + "3 for burnt files; 4 for pages that were burnt; 5 for askings of stored files (with those of reservations); 6 "
        + "for regrets; 7 for burnings; 8 for reservations; 9 for traces in the list";
    private static final String MEAN = "Returns the sum of the days since they came, as a float, divided by the number of "
        + "files, as a float";

    private LookCases() {
    }

    // ---- Promise 17: now

    @Says(in = "Promise 17", text = "Returns the day of now.")
    static void nowAnswers0And9999(Check check) {
        check.due("now() at first", new Archive().now(), 0);
        check.due("now() at last", Archive.onDay(9999).now(), 9999);
    }

    @Says(in = "Promise 17", text = "Returns the day.")
    static void nowIsNotMovedByLookingAhead(Check check) {
        Archive x = Archive.withFiles(1, 0, 1);
        x.pass(3);
        x.burntIn(0);
        x.ifPassed(400, 0);
        x.pass(401);
        check.due("now()", x.now(), 3);
    }

    // ---- Promise 18: count

    @Says(in = "Promise 18", text = "Returns a counter.")
    static void allCountersTogether(Check check) {
        Archive x = Archive.withFiles(3, 0, 4);
        x.add(4, 7);
        x.ask(0);
        x.ask(3);
        x.reserve(1, 10);
        x.reserve(3, 2000);
        x.pass(180);
        x.ask(0);
        x.ask(2);
        x.ask(9);
        int[] due = {1, 4, 7, 3, 12, 3, 2, 2, 1, 3};
        for (int what = 0; what < 10; what++) {
            check.due("count(" + what + ")", x.count(what), due[what]);
        }
    }

    @Says(in = "Promise 18", text = COUNTERS)
    static void countersOfAFullArchive(Check check) {
        Archive x = new Archive();
        x.set(SHELF, 600);
        for (int i = 0; i < 24; i++) {
            x.add(0, 25);
        }
        for (int day = 1; day <= 8; day++) {
            x.reserve(5, day);
        }
        int[] due = {24, 24, 600, 0, 0, 0, 0, 0, 8, 0};
        for (int what = 0; what < 10; what++) {
            check.due("count(" + what + ")", x.count(what), due[what]);
        }
        x.pass(90);
        int[] later = {1, 24, 25, 23, 575, 8, 0, 1, 0, 12};
        for (int what = 0; what < 10; what++) {
            check.due("count(" + what + ") later", x.count(what), later[what]);
        }
    }

    @Says(in = "Promise 18", text = COUNTERS)
    static void countersOfAUsedUpArchive(Check check) {
        Archive x = Archive.usedUp();
        int[] due = {0, 200, 0, 200, 200, 0, 0, 9, 0, 12};
        for (int what = 0; what < 10; what++) {
            check.due("count(" + what + ")", x.count(what), due[what]);
        }
    }

    @Says(in = "Promise 18", text = "5 for askings of stored files (with those of reservations)")
    static void askingsStayCountedWhenTheirFilesAreBurnt(Check check) {
        Archive x = Archive.withFiles(1, 0, 1);
        x.ask(0);
        x.reserve(0, 1);
        x.letPass(1000);
        check.due("count(0)", x.count(0), 0);
        check.due("count(5)", x.count(5), 2);
        x.ask(0);
        check.due("count(5) after a regret", x.count(5), 2);
    }

    @Says(in = "Promise 18", text = "Returns the number")
    static void reservationsAreCountedUntilTheirDayComes(Check check) {
        Archive x = Archive.withFiles(1, 0, 1);
        x.reserve(0, 2);
        x.pass(1);
        check.due("count(8) on the day before", x.count(8), 1);
        x.pass(1);
        check.due("count(8)", x.count(8), 0);
    }

    @Says(in = "Promise 18", text = "BAD_VALUE if what is out of range.")
    static void countRefusesOthers(Check check) {
        refusedBeyond(check, "count(x)", Cases::someFiles, (x, what) -> x.count(what), 0, 9, BAD_VALUE);
    }

    // ---- Promise 19: fileAt

    @Says(in = "Promise 19", text = "Returns the number of a stored file.")
    static void fileAtAnswersStoredFilesOnly(Check check) {
        Archive x = made(Cases::someFiles);
        check.due("fileAt(0)", x.fileAt(0), 1);
        check.due("fileAt(1)", x.fileAt(1), 2);
    }

    @Says(in = "Promise 19", text = "`place`: 0 for the lowest number, and so on")
    static void placesAreInTheOrderOfNumbers(Check check) {
        Archive x = Archive.withFiles(23, 0, 1);
        x.seal(0, 22, -1);
        x.seal(0, 11, -1);
        x.seal(0, 0, -1);
        x.pass(90);
        x.add(0, 1);
        int[] due = {0, 11, 22, 23};
        for (int place = 0; place < 4; place++) {
            check.due("fileAt(" + place + ")", x.fileAt(place), due[place]);
        }
    }

    @Says(in = "Promise 19", text = "Returns the number")
    static void theLastOf24Places(Check check) {
        Archive x = Archive.withFiles(24, 0, 1);
        check.due("fileAt(0)", x.fileAt(0), 0);
        check.due("fileAt(23)", x.fileAt(23), 23);
        check.due("fileAt(24)", x.fileAt(24), NONE);
    }

    @Says(in = "Promise 19", text = "BAD_VALUE if place is below 0")
    static void fileAtRefusesPlacesBelow0(Check check) {
        refusedBelow(check, "fileAt(x)", Cases::someFiles, (x, place) -> x.fileAt(place), 0, BAD_VALUE);
        refusedBelow(check, "fileAt(x) when empty", x -> { }, (x, place) -> x.fileAt(place), 0, BAD_VALUE);
    }

    @Says(in = "Promise 19", text = "NONE if there are not so many files.")
    static void fileAtIsNoneBehindTheLast(Check check) {
        check.due("fileAt(0) when empty", new Archive().fileAt(0), NONE);
        Archive x = made(Cases::someFiles);
        for (int place : new int[] {2, 3, 23, 24, 200, HIGHEST - 1, HIGHEST}) {
            check.due("fileAt(" + place + ")", x.fileAt(place), NONE);
        }
    }

    // ---- Promise 20: file

    @Says(in = "Promise 20", text = "Returns something about a file.")
    static void allAboutAFile(Check check) {
        Archive x = made(Cases::someFiles);
        int[] first = {1, 20, 90, NONE, 0, 1, 270, 0, 2, 1};
        int[] second = {2, 30, 90, 130, 1, 1, 490, 8 + 16, 0, 1};
        for (int what = 0; what < 10; what++) {
            check.due("file(1, " + what + ")", x.file(1, what), first[what]);
            check.due("file(2, " + what + ")", x.file(2, what), second[what]);
        }
    }

    @Says(in = "Promise 20", text = "`file`: number of a file")
    static void fileTakesTheLastOf24AndAHighNumber(Check check) {
        Archive x = Archive.withFiles(24, 0, 9);
        check.due("file(23, 1)", x.file(23, 1), 9);
        Archive y = Archive.usedUp();
        y.undo();
        check.due("file(199, 1)", y.file(199, 1), 1);
        check.due("file(191, 1)", y.file(191, 1), NO_SUCH);
        check.due("file(200, 1)", y.file(200, 1), NO_SUCH);
    }

    @Says(in = "Promise 20", text = "3 for the day on which it was asked for the latest time, NONE if it was not asked;")
    static void theDayOfTheLatestAsking(Check check) {
        Archive x = Archive.withFiles(1, 4, 1);
        check.due("file(0, 3), not asked", x.file(0, 3), NONE);
        x.ask(0);
        check.due("file(0, 3), asked on the day 0", x.file(0, 3), 0);
        x.letPass(9999);
        check.due("stored", x.count(0), 0);
        Archive y = Archive.onDay(9999);
        y.add(0, 1);
        y.ask(0);
        check.due("file(0, 3), asked on the day 9999", y.file(0, 3), 9999);
    }

    @Says(in = "Promise 20", text = "5 for the file to which it refers, NONE if there is none;")
    static void theFileToWhichItRefers(Check check) {
        Archive x = Archive.withFiles(2, 0, 1);
        check.due("file(0, 5), none", x.file(0, 5), NONE);
        x.refer(0, 1);
        check.due("file(0, 5), another one", x.file(0, 5), 1);
        x.refer(0, 0);
        check.due("file(0, 5), itself", x.file(0, 5), 0);
    }

    @Says(in = "Promise 20", text = "7 for the holders whose seals on it hold on the day of now, as a bit mask in which bit "
        + "k stands for the holder k;")
    static void theMaskOfHolders(Check check) {
        Archive x = Archive.withFiles(1, 4, 1);
        check.due("file(0, 7), no seal", x.file(0, 7), 0);
        for (int holder = 0; holder < 8; holder++) {
            x.seal(holder, 0, holder);
        }
        for (int day = 0; day < 8; day++) {
            check.due("file(0, 7) on the day " + day, x.file(0, 7), 255 >> day << day);
            x.pass(1);
        }
        check.due("file(0, 7) on the day 8", x.file(0, 7), 0);
        check.due("sealOf(7, 0)", x.sealOf(7, 0), 7);
    }

    @Says(in = "Promise 20", text = "8 for the number of files that refer to it;")
    static void allFilesCanReferToOne(Check check) {
        Archive x = Archive.withFiles(24, 0, 1);
        check.due("file(5, 8)", x.file(5, 8), 0);
        for (int file = 0; file < 24; file++) {
            x.refer(file, 5);
            check.due("file(5, 8)", x.file(5, 8), file + 1);
        }
    }

    @Says(in = "Promise 20", text = "9 for the number of its reservations")
    static void allReservationsCanBeOfOneFile(Check check) {
        Archive x = Archive.withFiles(2, 0, 1);
        check.due("file(0, 9)", x.file(0, 9), 0);
        for (int day = 1; day <= 8; day++) {
            x.reserve(0, day);
            check.due("file(0, 9)", x.file(0, 9), day);
        }
        check.due("file(1, 9)", x.file(1, 9), 0);
    }

    @Says(in = "Promise 20", text = "Returns the number")
    static void theNumbersOfTheSmallestAndTheLargestFile(Check check) {
        Archive x = Archive.withFiles(1, 0, 1);
        x.add(4, 50);
        check.due("file(0, 0)", x.file(0, 0), 0);
        check.due("file(0, 1)", x.file(0, 1), 1);
        check.due("file(1, 0)", x.file(1, 0), 4);
        check.due("file(1, 1)", x.file(1, 1), 50);
    }

    @Says(in = "Promise 20", text = "NO_SUCH if there is no such file")
    static void fileRefusesOtherFiles(Check check) {
        refusedBeyond(check, "file(x, 0)", Cases::someFiles, (x, file) -> x.file(file, 0), 1, 2, NO_SUCH);
    }

    @Says(in = "Promise 20", text = "BAD_VALUE if what is out of range.")
    static void fileRefusesOthers(Check check) {
        refusedBeyond(check, "file(2, x)", Cases::someFiles, (x, what) -> x.file(2, what), 0, 9, BAD_VALUE);
    }

    // ---- Promise 21: sealOf

    @Says(in = "Promise 21", text = "Returns the last day of a seal.")
    static void sealOfAnswersTheLatestSeal(Check check) {
        Archive x = Archive.withFiles(1, 4, 1);
        x.seal(0, 0, 5);
        x.seal(0, 0, 4);
        check.due("sealOf(0, 0)", x.sealOf(0, 0), 4);
    }

    @Says(in = "Promise 21", text = "`holder`: 0 to 7")
    static void sealOfTakesHolders0To7(Check check) {
        Archive x = Archive.withFiles(1, 4, 1);
        for (int holder = 0; holder < 8; holder++) {
            x.seal(holder, 0, 100 + holder);
        }
        for (int holder = 0; holder < 8; holder++) {
            check.due("sealOf(" + holder + ", 0)", x.sealOf(holder, 0), 100 + holder);
        }
    }

    @Says(in = "Promise 21", text = "`file`: number of a file")
    static void sealOfTakesTheStoredFiles(Check check) {
        Archive x = Archive.withFiles(24, 0, 1);
        for (int file = 0; file < 24; file++) {
            x.seal(0, file, file);
        }
        for (int file = 0; file < 24; file++) {
            check.due("sealOf(0, " + file + ")", x.sealOf(0, file), file);
        }
    }

    @Says(in = "Promise 21", text = "Returns the last day, 10000 if the seal has none")
    static void sealOfAnswers0To10000(Check check) {
        Archive x = Archive.withFiles(1, 0, 1);
        x.seal(0, 0, 0);
        x.seal(1, 0, 9999);
        x.seal(2, 0, -1);
        check.due("sealOf(0, 0)", x.sealOf(0, 0), 0);
        check.due("sealOf(1, 0)", x.sealOf(1, 0), 9999);
        check.due("sealOf(2, 0)", x.sealOf(2, 0), 10000);
    }

    @Says(in = "Promise 21", text = "NO_SUCH if there is no such holder or file")
    static void sealOfRefusesOtherHoldersAndFiles(Check check) {
        refusedBeyond(check, "sealOf(x, 2)", Cases::someFiles, (x, holder) -> x.sealOf(holder, 2), 0, 7, NO_SUCH);
        refusedBeyond(check, "sealOf(3, x)", Cases::someFiles, (x, file) -> x.sealOf(3, file), 1, 2, NO_SUCH);
        refused(check, "sealOf(8, 3)", Cases::someFiles, x -> x.sealOf(8, 3), NO_SUCH);
    }

    @Says(in = "Promise 21", text = "NONE if there is no seal of the holder on the file.")
    static void sealOfIsNoneWithoutASeal(Check check) {
        Archive x = Archive.withFiles(2, 0, 1);
        x.seal(3, 0, -1);
        check.due("sealOf(4, 0), another holder", x.sealOf(4, 0), NONE);
        check.due("sealOf(2, 0), another holder", x.sealOf(2, 0), NONE);
        check.due("sealOf(3, 1), another file", x.sealOf(3, 1), NONE);
        x.lift(3, 0);
        check.due("sealOf(3, 0), lifted", x.sealOf(3, 0), NONE);
    }

    // ---- Promise 22: trace

    @Says(in = "Promise 22", text = "Returns something about a trace.")
    static void allAboutATrace(Check check) {
        Archive x = Archive.withFiles(3, 0, 1);
        x.add(1, 22);
        x.ask(3);
        x.ask(3);
        x.letPass(180);
        int[] due = {3, 1, 22, 180, 2};
        for (int what = 0; what < 5; what++) {
            check.due("trace(0, " + what + ")", x.trace(0, what), due[what]);
        }
    }

    @Says(in = "Promise 22", text = "`ago`: 0 for the latest trace in the list, and so on")
    static void theLatestAndTheOldestOf12Traces(Check check) {
        Archive x = Archive.usedUp();
        for (int ago = 0; ago < 12; ago++) {
            check.due("trace(" + ago + ", 0)", x.trace(ago, 0), 199 - ago);
        }
        check.due("trace(7, 3)", x.trace(7, 3), 810);
        check.due("trace(8, 3)", x.trace(8, 3), 720);
    }

    @Says(in = "Promise 22", text = "`what`: 0 for the number of the burnt file; 1 for its kind; 2 for its pages; 3 for the "
        + "day on which it was burnt; 4 for how often it was asked")
    static void aTraceOfTheSmallestAndOneOfTheLargestFile(Check check) {
        Archive x = Archive.withFiles(1, 0, 1);
        x.add(4, 50);
        x.letPass(9990);
        int[] smallest = {0, 0, 1, 90, 0};
        int[] largest = {1, 4, 50, 1440, 0};
        for (int what = 0; what < 5; what++) {
            check.due("trace(1, " + what + ")", x.trace(1, what), smallest[what]);
            check.due("trace(0, " + what + ")", x.trace(0, what), largest[what]);
        }
    }

    @Says(in = "Promise 22", text = "Returns the number")
    static void aTraceOfTheLastBurning(Check check) {
        Archive x = Archive.onDay(9900);
        x.add(0, 1);
        check.due("pass(90)", x.pass(90), 1);
        check.due("trace(0, 3)", x.trace(0, 3), 9990);
    }

    @Says(in = "Promise 22", text = "BAD_VALUE if ago is below 0 or what is out of range")
    static void traceRefusesOthers(Check check) {
        refusedBelow(check, "trace(x, 0)", Cases::someFiles, (x, ago) -> x.trace(ago, 0), 0, BAD_VALUE);
        refusedBeyond(check, "trace(0, x)", Cases::someFiles, (x, what) -> x.trace(0, what), 0, 4, BAD_VALUE);
        refusedBeyond(check, "trace(9, x)", Cases::someFiles, (x, what) -> x.trace(9, what), 0, 4, BAD_VALUE);
        refusedBeyond(check, "trace(0, x), none", x -> { }, (x, what) -> x.trace(0, what), 0, 4, BAD_VALUE);
    }

    @Says(in = "Promise 22", text = "NONE if the list has not so many traces.")
    static void traceIsNoneBehindTheOldest(Check check) {
        check.due("trace(0, 0) of none", new Archive().trace(0, 0), NONE);
        Archive one = made(Cases::someFiles);
        check.due("trace(0, 0) of one", one.trace(0, 0), 0);
        check.due("trace(1, 0) of one", one.trace(1, 0), NONE);
        Archive full = Archive.usedUp();
        check.due("trace(11, 0) of twelve", full.trace(11, 0), 188);
        for (int ago : new int[] {12, 13, 199, HIGHEST - 1, HIGHEST}) {
            check.due("trace(" + ago + ", 4) of twelve", full.trace(ago, 4), NONE);
        }
    }

    // ---- Promise 23: reservation

    @Says(in = "Promise 23", text = "Returns something about a reservation.")
    static void aReservationOfTheFirstAndOfTheLastDay(Check check) {
        Archive x = Archive.withFiles(1, 0, 1);
        x.reserve(0, 9999);
        x.reserve(0, 1);
        check.due("reservation(0, 1)", x.reservation(0, 1), 1);
        check.due("reservation(1, 1)", x.reservation(1, 1), 9999);
    }

    @Says(in = "Promise 23", text = "`place`: 0 for the one with the earliest day (of several, the one with the lowest "
        + "file), and so on")
    static void reservationsAreInTheOrderOfDaysAndThenOfFiles(Check check) {
        int[][] due = {{2, 5}, {0, 7}, {1, 7}, {2, 7}, {0, 8}, {0, 9}, {1, 9}, {0, 10}};
        int[][] orders = {{0, 1, 2, 3, 4, 5, 6, 7}, {7, 6, 5, 4, 3, 2, 1, 0}, {3, 6, 1, 4, 7, 0, 2, 5}};
        for (int[] order : orders) {
            Archive x = Archive.withFiles(3, 0, 1);
            for (int next : order) {
                x.reserve(due[next][0], due[next][1]);
            }
            for (int place = 0; place < 8; place++) {
                check.due("reservation(" + place + ", 0)", x.reservation(place, 0), due[place][0]);
                check.due("reservation(" + place + ", 1)", x.reservation(place, 1), due[place][1]);
            }
        }
    }

    @Says(in = "Promise 23", text = "`what`: 0 for its file, 1 for its day")
    static void theFileAndTheDayOfAReservation(Check check) {
        Archive x = made(Cases::someFiles);
        check.due("reservation(0, 0)", x.reservation(0, 0), 2);
        check.due("reservation(0, 1)", x.reservation(0, 1), 150);
        check.due("reservation(1, 0)", x.reservation(1, 0), 1);
        check.due("reservation(1, 1)", x.reservation(1, 1), 9999);
    }

    @Says(in = "Promise 23", text = "Returns the number")
    static void theNextReservationMovesUp(Check check) {
        Archive x = Archive.withFiles(2, 0, 1);
        x.reserve(0, 5);
        x.reserve(1, 6);
        x.pass(5);
        check.due("reservation(0, 0)", x.reservation(0, 0), 1);
        check.due("reservation(1, 0)", x.reservation(1, 0), NONE);
    }

    @Says(in = "Promise 23", text = "BAD_VALUE if place is below 0 or what is out of range")
    static void reservationRefusesOthers(Check check) {
        refusedBelow(check, "reservation(x, 0)", Cases::someFiles, (x, place) -> x.reservation(place, 0), 0, BAD_VALUE);
        refusedBeyond(check, "reservation(0, x)", Cases::someFiles, (x, what) -> x.reservation(0, what), 0, 1, BAD_VALUE);
        refusedBeyond(check, "reservation(9, x)", Cases::someFiles, (x, what) -> x.reservation(9, what), 0, 1, BAD_VALUE);
    }

    @Says(in = "Promise 23", text = "NONE if there are not so many.")
    static void reservationIsNoneBehindTheLast(Check check) {
        check.due("reservation(0, 0) of none", new Archive().reservation(0, 0), NONE);
        Archive x = Archive.withFiles(1, 0, 1);
        for (int day = 1; day <= 8; day++) {
            x.reserve(0, day);
        }
        check.due("reservation(7, 1) of eight", x.reservation(7, 1), 8);
        for (int place : new int[] {8, 9, HIGHEST - 1, HIGHEST}) {
            check.due("reservation(" + place + ", 0) of eight", x.reservation(place, 0), NONE);
            check.due("reservation(" + place + ", 1) of eight", x.reservation(place, 1), NONE);
        }
        x.cancel(0, 1);
        check.due("reservation(7, 1) of seven", x.reservation(7, 1), NONE);
    }

    // ---- Promise 24: setting

    @Says(in = "Promise 24", text = "Returns the value of a setting.")
    static void settingAnswersWhatWasSet(Check check) {
        Archive x = new Archive();
        x.set(4, 2000);
        check.due("setting(4)", x.setting(4), 2000);
        x.set(4, 2001);
        check.due("setting(4) after a refused value", x.setting(4), 2000);
    }

    @Says(in = "Promise 24", text = "`setting`: 0 to 6")
    static void settingTakes0To6(Check check) {
        taken(check, "setting(x)", x -> { }, (x, setting) -> x.setting(setting), 0, 6);
    }

    @Says(in = "Promise 24", text = "Returns the value")
    static void settingAnswersTheFirstValues(Check check) {
        check.due("setting(0)", new Archive().setting(0), 90);
        check.due("setting(6)", new Archive().setting(6), 300);
    }

    @Says(in = "Promise 24", text = "NO_SUCH if there is no such setting.")
    static void settingRefusesOthers(Check check) {
        refusedBeyond(check, "setting(x)", Cases::someFiles, (x, setting) -> x.setting(setting), 0, 6, NO_SUCH);
    }

    // ---- Promise 25: meanAge

    @Says(in = "Promise 25", text = "Returns the mean age of the stored files.")
    static void theMeanAgeIsThatOfStoredFiles(Check check) {
        Archive x = Archive.withFiles(1, 0, 1);
        x.pass(10);
        x.add(1, 1);
        check.due("meanAge() of both", x.meanAge(), 5.0f);
        x.pass(80);
        check.due("meanAge() of the one that stayed", x.meanAge(), 80.0f);
    }

    @Says(in = "Promise 25", text = MEAN)
    static void theMeanAgeIsAFloat(Check check) {
        Archive x = Archive.withFiles(1, 4, 1);
        check.due("meanAge() on the day it came", x.meanAge(), 0.0f);
        x.pass(10);
        x.add(4, 1);
        x.add(4, 1);
        x.ask(0);
        check.due("meanAge() of three", x.meanAge(), 10.0f / 3.0f);
    }

    @Says(in = "Promise 25", text = MEAN)
    static void theLargestMeanAge(Check check) {
        Archive x = Archive.withFiles(24, 0, 1);
        for (int file = 0; file < 24; file++) {
            x.seal(0, file, -1);
        }
        x.letPass(9999);
        check.due("meanAge() of 24", x.meanAge(), 9999.0f);
        Archive y = Archive.withFiles(22, 0, 1);
        for (int file = 0; file < 22; file++) {
            y.seal(0, file, -1);
        }
        y.letPass(9999);
        y.add(0, 1);
        check.due("meanAge() of 22 old ones and a new one", y.meanAge(), 22 * 9999 / 23.0f);
    }

    @Says(in = "Promise 25", text = "0.0f without files.")
    static void theMeanAgeWithoutFiles(Check check) {
        check.due("meanAge() of a new archive", new Archive().meanAge(), 0.0f);
        Archive x = Archive.withFiles(24, 0, 1);
        x.pass(90);
        check.due("meanAge() after all were burnt", x.meanAge(), 0.0f);
    }
}
