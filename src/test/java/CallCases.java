/** The document's promises 1 to 10: a new object, and the calls about files. */
final class CallCases extends Cases {
    private CallCases() {
    }

    // ---- Promise 1: a new object

    @Says(in = "Promise 1", text = "Creates an empty archive on the day 0, with an empty text and an empty history.")
    static void aNewArchiveIsEmptyOnTheDay0(Check check) {
        Archive x = new Archive();
        check.due("now()", x.now(), 0);
        for (int what = 0; what < 10; what++) {
            check.due("count(" + what + ")", x.count(what), 0);
        }
        check.due("fileAt(0)", x.fileAt(0), NONE);
        check.due("trace(0, 0)", x.trace(0, 0), NONE);
        check.due("reservation(0, 0)", x.reservation(0, 0), NONE);
        check.due("ask(0)", x.ask(0), NO_SUCH);
    }

    @Says(in = "Promise 1", text = "Creates an empty archive on the day 0, with an empty text and an empty history.")
    static void aNewArchiveHasAnEmptyText(Check check) {
        Archive x = new Archive();
        check.due("fault()", x.fault(), 0);
        check.due("run()", x.run(), BAD_TEXT);
        check.due("clearText()", x.clearText(), 0);
    }

    @Says(in = "Promise 1", text = "Creates an empty archive on the day 0, with an empty text and an empty history.")
    static void aNewArchiveHasAnEmptyHistoryAndNoReport(Check check) {
        Archive x = new Archive();
        check.due("undo()", x.undo(), NONE);
        check.due("why(0)", x.why(0), NONE);
    }

    @Says(in = "Promise 1", text = "Creates an empty archive on the day 0, with an empty text and an empty history.")
    static void twoArchivesShareNothing(Check check) {
        Archive one = new Archive();
        Archive two = new Archive();
        someFiles(one);
        for (int part = 0; part < Archive.PARTS; part++) {
            check.same("part " + part + " of the other one", two.seen(part), new Archive().seen(part));
        }
    }

    // ---- Promise 2: add

    @Says(in = "Promise 2", text = "Adds a file, which comes on the day of now.")
    static void aFileComesOnTheDayOfNow(Check check) {
        Archive x = new Archive();
        x.add(0, 1);
        check.due("file(0, 2) on the day 0", x.file(0, 2), 0);
        x.letPass(9999);
        x.add(0, 1);
        check.due("file(1, 2) on the day 9999", x.file(1, 2), 9999);
    }

    @Says(in = "Promise 2", text = "`kind`: 0 to 4")
    static void addTakesKinds0To4(Check check) {
        taken(check, "add(x, 1)", x -> { }, (x, kind) -> x.add(kind, 1), 0, 4);
        for (int kind = 0; kind <= 4; kind++) {
            check.due("file(0, 0)", Archive.withFiles(1, kind, 1).file(0, 0), kind);
        }
    }

    @Says(in = "Promise 2", text = "`pages`: 1 to 50")
    static void addTakesPages1To50(Check check) {
        taken(check, "add(0, x)", x -> { }, (x, pages) -> x.add(0, pages), 1, 50);
        check.due("file(0, 1) of one", Archive.withFiles(1, 0, 1).file(0, 1), 1);
        check.due("file(0, 1) of fifty", Archive.withFiles(1, 0, 50).file(0, 1), 50);
    }

    @Says(in = "Promise 2", text = "Returns its number")
    static void addAnswersTheNumber(Check check) {
        Archive x = new Archive();
        check.due("add(4, 50)", x.add(4, 50), 0);
        check.due("add(0, 1)", x.add(0, 1), 1);
        check.due("fileAt(1)", x.fileAt(1), 1);
    }

    @Says(in = "Promise 2", text = "BAD_VALUE if an argument is out of range")
    static void addRefusesOtherKinds(Check check) {
        refusedBeyond(check, "add(x, 1)", Cases::someFiles, (x, kind) -> x.add(kind, 1), 0, 4, BAD_VALUE);
    }

    @Says(in = "Promise 2", text = "BAD_VALUE if an argument is out of range")
    static void addRefusesOtherPages(Check check) {
        refusedBeyond(check, "add(0, x)", Cases::someFiles, (x, pages) -> x.add(0, pages), 1, 50, BAD_VALUE);
    }

    @Says(in = "Promise 2", text = "TOO_MANY if 24 files are stored")
    static void addRefusesA25thFile(Check check) {
        Steps full = x -> {
            for (int i = 0; i < 24; i++) {
                x.add(i % 5, 1);
            }
        };
        refused(check, "add(0, 1)", full, x -> x.add(0, 1), TOO_MANY);
    }

    @Says(in = "Promise 2", text = "if 200 files came")
    static void addRefusesA201stFile(Check check) {
        Archive x = Archive.usedUp();
        String seen = Archive.usedUp().seen(0);
        check.due("add(0, 1)", x.add(0, 1), TOO_MANY);
        check.same("what is seen then", x.seen(0), seen);
        check.due("run() of n0,1", x.runOf("n0,1"), 0);
        check.due("why(2)", x.why(2), 4);
    }

    @Says(in = "Promise 2", text = "or if the stored files would have more than SHELF pages together")
    static void addRefusesAPageBeyondTheShelf(Check check) {
        Steps full = x -> {
            for (int i = 0; i < 6; i++) {
                x.add(i % 5, 50);
            }
        };
        refused(check, "add(0, 1)", full, x -> x.add(0, 1), TOO_MANY);
        refused(check, "add(0, 50)", full, x -> x.add(0, 50), TOO_MANY);
    }

    // ---- Promise 3: ask

    @Says(in = "Promise 3", text = "Asks for a file.")
    static void askCountsEachAsking(Check check) {
        Archive x = Archive.withFiles(2, 0, 1);
        check.due("ask(1)", x.ask(1), 1);
        check.due("ask(1)", x.ask(1), 2);
        check.due("ask(0)", x.ask(0), 1);
        check.due("file(1, 4)", x.file(1, 4), 2);
    }

    @Says(in = "Promise 3", text = "If it is stored, it is asked on the day of now; if it was burnt, this is a regret.")
    static void aStoredFileIsAskedOnTheDayOfNow(Check check) {
        Archive x = Archive.withFiles(1, 4, 1);
        x.letPass(1000);
        x.ask(0);
        check.due("file(0, 3)", x.file(0, 3), 1000);
        check.due("count(5)", x.count(5), 1);
        check.due("count(6)", x.count(6), 0);
    }

    @Says(in = "Promise 3", text = "if it was burnt, this is a regret.")
    static void askingForABurntFileIsARegret(Check check) {
        Archive x = Archive.withFiles(1, 0, 1);
        x.pass(90);
        check.due("ask(0)", x.ask(0), NONE);
        check.due("ask(0)", x.ask(0), NONE);
        check.due("count(5)", x.count(5), 0);
        check.due("count(6)", x.count(6), 2);
        check.due("trace(0, 4)", x.trace(0, 4), 0);
    }

    @Says(in = "Promise 3", text = "`file`: number of a file that came, stored or burnt")
    static void askTakesTheFirstAndTheLatestFile(Check check) {
        Archive x = Archive.usedUp();
        check.due("ask(0)", x.ask(0), NONE);
        check.due("ask(199)", x.ask(199), NONE);
        check.due("ask(200)", x.ask(200), NO_SUCH);
    }

    @Says(in = "Promise 3", text = "Returns how often it was asked, if it is stored")
    static void askCountsTheAskingsOfReservations(Check check) {
        Archive x = Archive.withFiles(1, 0, 1);
        x.reserve(0, 1);
        x.reserve(0, 2);
        x.pass(2);
        check.due("ask(0)", x.ask(0), 3);
    }

    @Says(in = "Promise 3", text = "NONE if it was burnt (this is an action, too)")
    static void aRegretIsAnAction(Check check) {
        Archive x = Archive.withFiles(1, 0, 1);
        x.pass(90);
        x.ask(0);
        check.due("undo()", x.undo(), 2);
        check.due("count(0)", x.count(0), 0);
        check.due("count(6)", x.count(6), 0);
    }

    @Says(in = "Promise 3", text = "NO_SUCH if no file with this number came.")
    static void askRefusesAFileThatDidNotCome(Check check) {
        refusedBeyond(check, "ask(x)", Cases::someFiles, (x, file) -> x.ask(file), 0, 2, NO_SUCH);
        refused(check, "ask(0) in an empty archive", x -> { }, x -> x.ask(0), NO_SUCH);
    }

    // ---- Promise 4: seal

    @Says(in = "Promise 4", text = "a seal of this holder that is on it is replaced.")
    static void aSealIsReplacedByOneWithoutALastDayAndBack(Check check) {
        Archive x = Archive.withFiles(1, 4, 1);
        check.due("seal(0, 0, 7)", x.seal(0, 0, 7), 1);
        check.due("seal(0, 0, -1)", x.seal(0, 0, -1), 1);
        check.due("sealOf(0, 0)", x.sealOf(0, 0), 10000);
        check.due("seal(0, 0, 0)", x.seal(0, 0, 0), 1);
        check.due("sealOf(0, 0)", x.sealOf(0, 0), 0);
        x.pass(1);
        check.due("file(0, 7)", x.file(0, 7), 0);
    }

    @Says(in = "Promise 4", text = "`holder`: 0 to 7")
    static void sealTakesHolders0To7(Check check) {
        taken(check, "seal(x, 1, -1)", Cases::someFiles, (x, holder) -> x.seal(holder, 1, -1), 0, 7);
    }

    @Says(in = "Promise 4", text = "`file`: number of a file")
    static void sealTakesTheStoredFiles(Check check) {
        Archive x = Archive.withFiles(24, 0, 1);
        check.due("seal(0, 0, -1)", x.seal(0, 0, -1), 1);
        check.due("seal(0, 23, -1)", x.seal(0, 23, -1), 1);
        check.due("sealOf(0, 23)", x.sealOf(0, 23), 10000);
        check.due("sealOf(0, 22)", x.sealOf(0, 22), NONE);
    }

    @Says(in = "Promise 4", text = "`last`: the last day, from now to 9999; -1 for a seal without one")
    static void theLastDayIsFromNowTo9999(Check check) {
        Archive x = Archive.withFiles(1, 4, 1);
        x.pass(100);
        check.due("seal(0, 0, 99)", x.seal(0, 0, 99), BAD_VALUE);
        check.due("seal(0, 0, 100)", x.seal(0, 0, 100), 1);
        check.due("seal(1, 0, 9999)", x.seal(1, 0, 9999), 2);
        check.due("seal(2, 0, 10000)", x.seal(2, 0, 10000), BAD_VALUE);
        check.due("seal(2, 0, -1)", x.seal(2, 0, -1), 3);
    }

    @Says(in = "Promise 4", text = "`last`: the last day, from now to 9999; -1 for a seal without one")
    static void onTheDay9999TheLastDayIs9999(Check check) {
        Archive x = Archive.onDay(9999);
        x.add(0, 1);
        check.due("seal(0, 0, 9998)", x.seal(0, 0, 9998), BAD_VALUE);
        check.due("seal(0, 0, 9999)", x.seal(0, 0, 9999), 1);
        check.due("seal(0, 0, 0)", x.seal(0, 0, 0), BAD_VALUE);
        check.due("seal(1, 0, -1)", x.seal(1, 0, -1), 2);
    }

    @Says(in = "Promise 4", text = "Returns the number of seals on the file that hold on the day of now")
    static void sealCountsOnlySealsThatHold(Check check) {
        Archive x = Archive.withFiles(1, 4, 1);
        x.seal(0, 0, 5);
        x.seal(1, 0, 6);
        x.seal(2, 0, -1);
        x.pass(6);
        check.due("seal(3, 0, 6)", x.seal(3, 0, 6), 3);
    }

    @Says(in = "Promise 4", text = "NO_SUCH if there is no such holder or file")
    static void sealRefusesOtherHoldersAndFiles(Check check) {
        refusedBeyond(check, "seal(x, 2, -1)", Cases::someFiles, (x, holder) -> x.seal(holder, 2, -1), 0, 7, NO_SUCH);
        refusedBeyond(check, "seal(0, x, -1)", Cases::someFiles, (x, file) -> x.seal(0, file, -1), 1, 2, NO_SUCH);
    }

    @Says(in = "Promise 4", text = "BAD_VALUE if last is out of range.")
    static void sealRefusesOtherLastDays(Check check) {
        refusedBeyond(check, "seal(3, 2, x)", Cases::someFiles, (x, last) -> x.seal(3, 2, last), 130, 9999, BAD_VALUE);
        refused(check, "seal(3, 2, -2)", Cases::someFiles, x -> x.seal(3, 2, -2), BAD_VALUE);
        refused(check, "seal(3, 2, 0)", Cases::someFiles, x -> x.seal(3, 2, 0), BAD_VALUE);
    }

    // ---- Promise 5: lift

    @Says(in = "Promise 5", text = "Lifts the seal of a holder from a file, whether it holds or not.")
    static void aSealThatDoesNotHoldIsLifted(Check check) {
        Archive x = Archive.withFiles(1, 4, 1);
        x.seal(0, 0, 0);
        x.pass(1);
        check.due("lift(0, 0)", x.lift(0, 0), 0);
        check.due("sealOf(0, 0)", x.sealOf(0, 0), NONE);
    }

    @Says(in = "Promise 5", text = "`holder`: 0 to 7")
    static void liftTakesHolders0To7(Check check) {
        Steps sealed = x -> {
            x.add(0, 1);
            for (int holder = 0; holder < 8; holder++) {
                x.seal(holder, 0, -1);
            }
        };
        taken(check, "lift(x, 0)", sealed, (x, holder) -> x.lift(holder, 0), 0, 7);
        refusedBeyond(check, "lift(x, 0)", sealed, (x, holder) -> x.lift(holder, 0), 0, 7, NO_SUCH);
    }

    @Says(in = "Promise 5", text = "`file`: number of a file")
    static void liftTakesTheSealOfOneFile(Check check) {
        Archive x = Archive.withFiles(24, 0, 1);
        x.seal(3, 0, -1);
        x.seal(3, 23, -1);
        check.due("lift(3, 23)", x.lift(3, 23), 0);
        check.due("sealOf(3, 0)", x.sealOf(3, 0), 10000);
        check.due("lift(3, 0)", x.lift(3, 0), 0);
    }

    @Says(in = "Promise 5", text = "Returns the number of seals on the file that hold on the day of now")
    static void liftCountsOnlySealsThatHold(Check check) {
        Archive x = Archive.withFiles(1, 4, 1);
        x.seal(0, 0, 5);
        x.seal(1, 0, 6);
        x.seal(2, 0, -1);
        x.seal(3, 0, 9);
        x.pass(6);
        check.due("lift(3, 0)", x.lift(3, 0), 2);
        check.due("lift(0, 0)", x.lift(0, 0), 2);
        check.due("lift(1, 0)", x.lift(1, 0), 1);
        check.due("lift(2, 0)", x.lift(2, 0), 0);
    }

    @Says(in = "Promise 5", text = "NO_SUCH if there is no such holder or file, or no seal of the holder on the file.")
    static void liftRefusesOtherHoldersAndFiles(Check check) {
        refusedBeyond(check, "lift(x, 2)", Cases::someFiles, (x, holder) -> x.lift(holder, 2), 3, 4, NO_SUCH);
        refusedBeyond(check, "lift(3, x)", Cases::someFiles, (x, file) -> x.lift(3, file), 2, 2, NO_SUCH);
    }

    @Says(in = "Promise 5", text = "or no seal of the holder on the file.")
    static void liftRefusesASealThatWasLifted(Check check) {
        Steps lifted = x -> {
            someFiles(x);
            x.lift(3, 2);
        };
        refused(check, "lift(3, 2)", lifted, x -> x.lift(3, 2), NO_SUCH);
    }

    // ---- Promise 6: refer

    @Says(in = "Promise 6", text = "Makes a file refer to another one, in place of the one to which it refers.")
    static void aReferenceReplacesTheOneBefore(Check check) {
        Archive x = Archive.withFiles(3, 0, 1);
        check.due("refer(0, 1)", x.refer(0, 1), 1);
        check.due("refer(0, 2)", x.refer(0, 2), 1);
        check.due("file(0, 5)", x.file(0, 5), 2);
        check.due("file(1, 8)", x.file(1, 8), 0);
    }

    @Says(in = "Promise 6", text = "`file`: number of a file")
    static void referTakesEachStoredFile(Check check) {
        Archive x = Archive.withFiles(24, 0, 1);
        for (int file = 0; file < 24; file++) {
            check.due("refer(" + file + ", 23)", x.refer(file, 23), file + 1);
        }
        check.due("file(23, 8)", x.file(23, 8), 24);
    }

    @Says(in = "Promise 6", text = "`target`: number of a file (it can be the same one)")
    static void aFileCanReferToItself(Check check) {
        Archive x = Archive.withFiles(1, 0, 1);
        check.due("refer(0, 0)", x.refer(0, 0), 1);
        check.due("file(0, 5)", x.file(0, 5), 0);
        check.due("file(0, 8)", x.file(0, 8), 1);
    }

    @Says(in = "Promise 6", text = "Returns the number of files that refer to the target")
    static void referCountsAReferenceOnce(Check check) {
        Archive x = Archive.withFiles(3, 0, 1);
        check.due("refer(0, 2)", x.refer(0, 2), 1);
        check.due("refer(0, 2) again", x.refer(0, 2), 1);
        check.due("refer(2, 2)", x.refer(2, 2), 2);
        check.due("refer(1, 0)", x.refer(1, 0), 1);
    }

    @Says(in = "Promise 6", text = "NO_SUCH if there is no such file or target.")
    static void referRefusesOtherFilesAndTargets(Check check) {
        refusedBeyond(check, "refer(x, 1)", Cases::someFiles, (x, file) -> x.refer(file, 1), 1, 2, NO_SUCH);
        refusedBeyond(check, "refer(1, x)", Cases::someFiles, (x, target) -> x.refer(1, target), 1, 2, NO_SUCH);
        refused(check, "refer(1, NONE)", Cases::someFiles, x -> x.refer(1, NONE), NO_SUCH);
        refused(check, "refer(3, 3)", Cases::someFiles, x -> x.refer(3, 3), NO_SUCH);
    }

    // ---- Promise 7: reserve

    @Says(in = "Promise 7", text = "Makes a reservation.")
    static void reserveMakesAReservation(Check check) {
        Archive x = Archive.withFiles(2, 0, 1);
        x.reserve(1, 77);
        check.due("reservation(0, 0)", x.reservation(0, 0), 1);
        check.due("reservation(0, 1)", x.reservation(0, 1), 77);
        check.due("file(1, 9)", x.file(1, 9), 1);
        check.due("file(0, 9)", x.file(0, 9), 0);
    }

    @Says(in = "Promise 7", text = "`file`: number of a file")
    static void reserveTakesTheStoredFiles(Check check) {
        Archive x = Archive.withFiles(24, 0, 1);
        check.due("reserve(23, 1)", x.reserve(23, 1), 1);
        check.due("reserve(0, 1)", x.reserve(0, 1), 2);
    }

    @Says(in = "Promise 7", text = "`day`: now + 1 to 9999")
    static void reserveTakesTheNextDayAndTheDay9999(Check check) {
        Archive x = Archive.withFiles(1, 0, 1);
        check.due("reserve(0, 1) on the day 0", x.reserve(0, 1), 1);
        check.due("reserve(0, 9999) on the day 0", x.reserve(0, 9999), 2);
        Archive late = Archive.onDay(9998);
        late.add(0, 1);
        check.due("reserve(0, 9999) on the day 9998", late.reserve(0, 9999), 1);
    }

    @Says(in = "Promise 7", text = "`day`: now + 1 to 9999")
    static void onTheDay9999NothingCanBeReserved(Check check) {
        Archive x = Archive.onDay(9999);
        x.add(0, 1);
        check.due("reserve(0, 9999)", x.reserve(0, 9999), BAD_VALUE);
        check.due("reserve(0, 10000)", x.reserve(0, 10000), BAD_VALUE);
    }

    @Says(in = "Promise 7", text = "Returns the number of reservations")
    static void reserveCountsTheReservationsOfAllFiles(Check check) {
        Archive x = Archive.withFiles(8, 0, 1);
        for (int file = 0; file < 8; file++) {
            check.due("reserve(" + file + ", 20)", x.reserve(file, 20), file + 1);
        }
    }

    @Says(in = "Promise 7", text = "NO_SUCH if there is no such file")
    static void reserveRefusesOtherFiles(Check check) {
        refusedBeyond(check, "reserve(x, 300)", Cases::someFiles, (x, file) -> x.reserve(file, 300), 1, 2, NO_SUCH);
    }

    @Says(in = "Promise 7", text = "BAD_VALUE if day is out of range")
    static void reserveRefusesOtherDays(Check check) {
        refusedBeyond(check, "reserve(1, x)", Cases::someFiles, (x, day) -> x.reserve(1, day), 131, 9999, BAD_VALUE);
        refused(check, "reserve(1, -1)", Cases::someFiles, x -> x.reserve(1, -1), BAD_VALUE);
    }

    @Says(in = "Promise 7", text = "NOT_POSSIBLE if there is this reservation")
    static void reserveRefusesTheSameOne(Check check) {
        refused(check, "reserve(2, 150)", Cases::someFiles, x -> x.reserve(2, 150), NOT_POSSIBLE);
        refused(check, "reserve(1, 9999)", Cases::someFiles, x -> x.reserve(1, 9999), NOT_POSSIBLE);
        Archive x = made(Cases::someFiles);
        x.cancel(2, 150);
        check.due("reserve(2, 150) after cancel", x.reserve(2, 150), 2);
    }

    @Says(in = "Promise 7", text = "TOO_MANY if there are 8 reservations.")
    static void reserveRefusesANinthOne(Check check) {
        Steps full = x -> {
            someFiles(x);
            for (int day = 200; day < 206; day++) {
                x.reserve(1, day);
            }
        };
        check.due("count(8)", made(full).count(8), 8);
        refused(check, "reserve(1, 206)", full, x -> x.reserve(1, 206), TOO_MANY);
        refused(check, "reserve(2, 131)", full, x -> x.reserve(2, 131), TOO_MANY);
    }

    // ---- Promise 8: cancel

    @Says(in = "Promise 8", text = "Cancels a reservation.")
    static void cancelTakesTheFirstAMiddleAndTheLastOfEight(Check check) {
        for (int day : new int[] {1, 4, 8}) {
            Archive x = Archive.withFiles(1, 0, 1);
            for (int other = 8; other >= 1; other--) {
                x.reserve(0, other);
            }
            check.due("cancel(0, " + day + ")", x.cancel(0, day), 7);
            for (int place = 0; place < 7; place++) {
                check.due("reservation(" + place + ", 1)", x.reservation(place, 1), place + 1 < day ? place + 1 : place + 2);
            }
            check.due("reservation(7, 1)", x.reservation(7, 1), NONE);
        }
    }

    @Says(in = "Promise 8", text = "`file`: number of a file")
    static void cancelTakesTheReservationOfOneFile(Check check) {
        Archive x = Archive.withFiles(2, 0, 1);
        x.reserve(0, 5);
        x.reserve(1, 5);
        check.due("cancel(1, 5)", x.cancel(1, 5), 1);
        check.due("reservation(0, 0)", x.reservation(0, 0), 0);
    }

    @Says(in = "Promise 8", text = "`day`: its day")
    static void cancelTakesTheReservationOfOneDay(Check check) {
        Archive x = Archive.withFiles(1, 0, 1);
        x.reserve(0, 1);
        x.reserve(0, 9999);
        check.due("cancel(0, 9999)", x.cancel(0, 9999), 1);
        check.due("reservation(0, 1)", x.reservation(0, 1), 1);
        x.pass(1);
        check.due("file(0, 4)", x.file(0, 4), 1);
    }

    @Says(in = "Promise 8", text = "Returns the number of reservations that are left")
    static void cancelOfTheOnlyOneLeavesNone(Check check) {
        Archive x = Archive.withFiles(1, 0, 1);
        x.reserve(0, 5);
        check.due("cancel(0, 5)", x.cancel(0, 5), 0);
        x.pass(5);
        check.due("count(5)", x.count(5), 0);
    }

    @Says(in = "Promise 8", text = "NO_SUCH if there is no such reservation.")
    static void cancelRefusesOtherReservations(Check check) {
        refusedBeyond(check, "cancel(x, 150)", Cases::someFiles, (x, file) -> x.cancel(file, 150), 2, 2, NO_SUCH);
        refusedBeyond(check, "cancel(2, x)", Cases::someFiles, (x, day) -> x.cancel(2, day), 150, 150, NO_SUCH);
        refused(check, "cancel(1, 150)", Cases::someFiles, x -> x.cancel(1, 150), NO_SUCH);
        refused(check, "cancel(2, 9999)", Cases::someFiles, x -> x.cancel(2, 9999), NO_SUCH);
        refused(check, "cancel(0, 0) without any", x -> { }, x -> x.cancel(0, 0), NO_SUCH);
    }

    @Says(in = "Promise 8", text = "NO_SUCH if there is no such reservation.")
    static void cancelRefusesAReservationWhoseDayCame(Check check) {
        Steps came = x -> {
            someFiles(x);
            x.pass(20);
        };
        refused(check, "cancel(2, 150)", came, x -> x.cancel(2, 150), NO_SUCH);
        check.due("cancel(2, 150) on the day before", made(y -> {
            someFiles(y);
            y.pass(19);
        }).cancel(2, 150), 1);
    }

    // ---- Promise 9: pass

    @Says(in = "Promise 9", text = "Lets days pass.")
    static void passLetsSoManyDaysPass(Check check) {
        Archive x = new Archive();
        x.pass(1);
        check.due("now()", x.now(), 1);
        x.pass(400);
        check.due("now()", x.now(), 401);
    }

    @Says(in = "Promise 9", text = "`days`: 1 to 400")
    static void passTakes1To400(Check check) {
        taken(check, "pass(x)", Cases::someFiles, (x, days) -> x.pass(days), 1, 400);
    }

    @Says(in = "Promise 9", text = "Returns the number of files that are burnt")
    static void passCountsTheFilesOfAllItsBurnings(Check check) {
        Archive x = Archive.withFiles(3, 0, 1);
        x.add(1, 1);
        x.add(2, 1);
        x.add(3, 1);
        check.due("pass(89)", x.pass(89), 0);
        check.due("pass(271)", x.pass(271), 5);
        check.due("pass(359)", x.pass(359), 0);
        check.due("pass(1)", x.pass(1), 1);
    }

    @Says(in = "Promise 9", text = "Returns the number of files that are burnt")
    static void passCanBurn24Files(Check check) {
        check.due("pass(90)", Archive.withFiles(24, 0, 1).pass(90), 24);
    }

    @Says(in = "Promise 9", text = "BAD_VALUE if days is out of range")
    static void passRefusesOtherDays(Check check) {
        refusedBeyond(check, "pass(x)", Cases::someFiles, (x, days) -> x.pass(days), 1, 400, BAD_VALUE);
        refused(check, "pass(-1)", Cases::someFiles, x -> x.pass(-1), BAD_VALUE);
    }

    @Says(in = "Promise 9", text = "NOT_POSSIBLE if now would be above 9999.")
    static void passTakesTheDaysUpTo9999(Check check) {
        Archive x = Archive.onDay(9599);
        check.due("pass(400)", x.pass(400), 0);
        check.due("now()", x.now(), 9999);
        Archive y = Archive.onDay(9998);
        check.due("pass(2)", y.pass(2), NOT_POSSIBLE);
        check.due("pass(1)", y.pass(1), 0);
    }

    @Says(in = "Promise 9", text = "NOT_POSSIBLE if now would be above 9999.")
    static void passRefusesADayAfter9999(Check check) {
        Steps late = x -> {
            someFiles(x);
            x.letPass(9600 - 130);
        };
        check.due("now()", made(late).now(), 9600);
        refused(check, "pass(400)", late, x -> x.pass(400), NOT_POSSIBLE);
        check.due("pass(399)", made(late).pass(399), 0);
    }

    // ---- Promise 10: set

    @Says(in = "Promise 10", text = "Changes a setting.")
    static void setChangesOneSetting(Check check) {
        for (int setting = 0; setting <= 6; setting++) {
            Archive x = new Archive();
            x.set(setting, setting == LOYAL ? 20 : 500);
            for (int other = 0; other <= 6; other++) {
                int due = other != setting ? new Archive().setting(other) : other == LOYAL ? 20 : 500;
                check.due("setting(" + other + ")", x.setting(other), due);
            }
        }
    }

    @Says(in = "Promise 10", text = "`setting`: 0 to 6")
    static void setTakesSettings0To6(Check check) {
        taken(check, "set(x, ..)", Cases::someFiles, (x, setting) -> x.set(setting, setting == LOYAL ? 9 : 99), 0, 6);
    }

    @Says(in = "Promise 10", text = "`value`: the new value")
    static void setTakesTheSmallestAndTheLargestValues(Check check) {
        int[] first = {90, 180, 360, 720, 1440, 3, 300};
        int[] smallest = {30, 30, 30, 30, 30, 1, 50};
        int[] largest = {2000, 2000, 2000, 2000, 2000, 20, 600};
        for (int setting = 0; setting <= 6; setting++) {
            Archive x = new Archive();
            check.due("set(" + setting + ", smallest)", x.set(setting, smallest[setting]), first[setting]);
            check.due("set(" + setting + ", largest)", x.set(setting, largest[setting]), smallest[setting]);
            check.due("setting(" + setting + ")", x.setting(setting), largest[setting]);
        }
    }

    @Says(in = "Promise 10", text = "Returns the previous value")
    static void setAnswersThePreviousValueEvenIfItIsTheSame(Check check) {
        Archive x = new Archive();
        check.due("set(6, 300)", x.set(6, 300), 300);
        check.due("set(6, 301)", x.set(6, 301), 300);
        check.due("set(6, 50)", x.set(6, 50), 301);
    }

    @Says(in = "Promise 10", text = "NO_SUCH if there is no such setting")
    static void setRefusesOtherSettings(Check check) {
        refusedBeyond(check, "set(x, 90)", Cases::someFiles, (x, setting) -> x.set(setting, 90), 0, 6, NO_SUCH);
    }

    @Says(in = "Promise 10", text = "BAD_VALUE if value is out of the range of the setting.")
    static void setRefusesOtherValues(Check check) {
        int[] smallest = {30, 30, 30, 30, 30, 1, 50};
        int[] largest = {2000, 2000, 2000, 2000, 2000, 20, 600};
        for (int number = 0; number <= 6; number++) {
            int setting = number;
            refusedBeyond(check, "set(" + setting + ", x)", Cases::someFiles, (x, value) -> x.set(setting, value),
                smallest[setting], largest[setting], BAD_VALUE);
        }
    }
}
