/** The document's "Actions and history" and "Errors". */
final class ActionCases extends Cases {
    private static final String HISTORY = "Actions and history";
    private static final String ERRORS = "Errors";
    private static final String ACTIONS =
        "The actions are add, ask, seal, lift, refer, reserve, cancel, pass, set and run.";
    private static final String STATE = "The state consists of now, the files with everything about them, the "
        + "reservations, the traces, the settings and the counters.";
    private static final String RECORDS = "Each action that returns no error code records the state before it in the "
        + "history, even if the action changes nothing.";
    private static final String FOUR =
        "The history holds at most 4 states; when a fifth state is recorded, the oldest one is dropped.";
    private static final String NO_PART = "The text, the report of run (see why) and the history are not part of the "
        + "state.";
    private static final String NOTHING = "A method that returns an error code changes nothing.";
    private static final String IN_ORDER = "The error codes of a method are listed in the order in which they are "
        + "checked, and the first one that applies is returned.";
    private static final String NO_FILE = "\"No such file\" means that no file with this number is stored.";

    private ActionCases() {
    }

    // ---- Actions and history

    /** The action leaves one state, and undo brings all back that was before it. */
    private static void isAction(Check check, String told, Call action) {
        for (int part = 0; part < Archive.PARTS - 1; part++) {
            Archive x = made(Cases::someFiles);
            int answer = action.on(x);
            check.holds(told + " is no error: " + answer, answer >= 0 || answer == NONE);
            check.due("undo() of " + told, x.undo(), 3);
            check.same("part " + part + " after undo() of " + told, x.seen(part), made(Cases::someFiles).seen(part));
        }
    }

    @Says(in = HISTORY, text = ACTIONS)
    static void addIsAnAction(Check check) {
        isAction(check, "add", x -> x.add(4, 3));
    }

    @Says(in = HISTORY, text = ACTIONS)
    static void askIsAnAction(Check check) {
        isAction(check, "ask", x -> x.ask(1));
    }

    @Says(in = HISTORY, text = ACTIONS)
    static void sealIsAnAction(Check check) {
        isAction(check, "seal", x -> x.seal(3, 2, 9999));
    }

    @Says(in = HISTORY, text = ACTIONS)
    static void liftIsAnAction(Check check) {
        isAction(check, "lift", x -> x.lift(4, 2));
    }

    @Says(in = HISTORY, text = ACTIONS)
    static void referIsAnAction(Check check) {
        isAction(check, "refer", x -> x.refer(1, 2));
    }

    @Says(in = HISTORY, text = ACTIONS)
    static void reserveIsAnAction(Check check) {
        isAction(check, "reserve", x -> x.reserve(2, 500));
    }

    @Says(in = HISTORY, text = ACTIONS)
    static void cancelIsAnAction(Check check) {
        isAction(check, "cancel", x -> x.cancel(2, 150));
    }

    @Says(in = HISTORY, text = ACTIONS)
    static void passIsAnAction(Check check) {
        isAction(check, "pass", x -> x.pass(400));
    }

    @Says(in = HISTORY, text = ACTIONS)
    static void setIsAnAction(Check check) {
        isAction(check, "set", x -> x.set(1, 30));
    }

    @Says(in = HISTORY, text = ACTIONS)
    static void runIsAnAction(Check check) {
        isAction(check, "run", x -> x.runOf("n0,1;a1;f2,2;l4,2;s0,1;d300"));
    }

    @Says(in = HISTORY, text = ACTIONS)
    static void noOtherCallIsAnAction(Check check) {
        Archive x = made(Cases::someFiles);
        x.clearText();
        x.append('d');
        x.append('1');
        x.fault();
        for (int what = 0; what < 10; what++) {
            x.why(what);
            x.count(what);
            x.file(2, what);
            x.fileAt(what);
            x.trace(0, what);
            x.reservation(0, what);
            x.setting(what);
            x.sealOf(what, 2);
            x.ifPassed(100, what);
        }
        x.meanAge();
        x.now();
        x.stays(1);
        x.keeper(1);
        x.burntIn(1);
        check.due("now()", x.now(), 130);
        check.due("states in the history", x.usedUpHistory(), 4);
        check.due("file(1, 5) after undo() of refer", x.file(1, 5), NONE);
        check.due("file(2, 5) of the refer before it", x.file(2, 5), 1);
    }

    @Says(in = HISTORY, text = STATE)
    static void undoRestoresAllOfTheState(Check check) {
        String orders = "n0,9;n1,9;a1;a1;a1;a0;f1,2;f2,2;s0,1;l3,2;d400;a2;d400";
        Steps before = x -> {
            someFiles(x);
            x.write(orders);
        };
        for (int part = 0; part <= 1; part++) {
            String seen = made(before).seen(part);
            Archive x = made(before);
            check.due("run()", x.run(), 13);
            check.holds("part " + part + " is changed", !x.seen(part).equals(seen));
            x.undo();
            check.same("part " + part + " after undo()", x.seen(part), seen);
        }
    }

    @Says(in = HISTORY, text = STATE)
    static void undoRestoresAFullListOfTraces(Check check) {
        Archive x = Archive.withFiles(20, 0, 2);
        for (int file = 16; file < 20; file++) {
            x.seal(0, file, 100);
        }
        x.pass(90);
        check.due("pass(90)", x.pass(90), 4);
        check.due("trace(0, 0)", x.trace(0, 0), 19);
        check.due("trace(11, 0)", x.trace(11, 0), 8);
        x.undo();
        check.due("count(9)", x.count(9), 12);
        for (int ago = 0; ago < 12; ago++) {
            check.due("trace(" + ago + ", 0)", x.trace(ago, 0), 15 - ago);
            check.due("trace(" + ago + ", 3)", x.trace(ago, 3), 90);
        }
    }

    @Says(in = HISTORY, text = STATE)
    static void undoRestoresAFullArchive(Check check) {
        Archive x = Archive.withFiles(24, 0, 2);
        for (int file = 0; file < 24; file++) {
            x.refer(file, 23 - file);
        }
        x.ask(7);
        x.pass(90);
        x.add(4, 5);
        x.undo();
        check.due("undo() of the burning", x.undo(), 2);
        check.due("count(0)", x.count(0), 24);
        check.due("count(2)", x.count(2), 48);
        check.due("count(3)", x.count(3), 0);
        check.due("count(4)", x.count(4), 0);
        check.due("count(7)", x.count(7), 0);
        check.due("count(9)", x.count(9), 0);
        for (int file = 0; file < 24; file++) {
            check.due("fileAt(" + file + ")", x.fileAt(file), file);
            check.due("file(" + file + ", 0)", x.file(file, 0), 0);
            check.due("file(" + file + ", 2)", x.file(file, 2), 0);
            check.due("file(" + file + ", 4)", x.file(file, 4), file == 7 ? 1 : 0);
            check.due("file(" + file + ", 5)", x.file(file, 5), 23 - file);
        }
    }

    @Says(in = HISTORY, text = STATE)
    static void undoRestoresFullReservations(Check check) {
        Archive x = Archive.withFiles(2, 0, 1);
        for (int day = 1; day <= 4; day++) {
            x.reserve(1, day);
            x.reserve(0, day);
        }
        x.pass(4);
        check.due("count(8)", x.count(8), 0);
        x.undo();
        check.due("count(8) after undo()", x.count(8), 8);
        for (int place = 0; place < 8; place++) {
            check.due("reservation(" + place + ", 0)", x.reservation(place, 0), place % 2);
            check.due("reservation(" + place + ", 1)", x.reservation(place, 1), 1 + place / 2);
        }
        check.due("count(5)", x.count(5), 0);
    }

    @Says(in = HISTORY, text = STATE)
    static void undoFreesANumber(Check check) {
        Archive x = Archive.withFiles(1, 0, 1);
        x.undo();
        check.due("count(1)", x.count(1), 0);
        check.due("ask(0)", x.ask(0), NO_SUCH);
        check.due("add(3, 2)", x.add(3, 2), 0);
        check.due("file(0, 0)", x.file(0, 0), 3);
    }

    @Says(in = HISTORY, text = RECORDS)
    static void anActionThatChangesNothingIsRecorded(Check check) {
        Archive x = Archive.withFiles(1, 0, 1);
        x.seal(0, 0, 7);
        x.refer(0, 0);
        x.usedUpHistory();
        x.add(0, 1);
        x.seal(0, 0, 7);
        x.refer(0, 0);
        x.set(0, 90);
        for (int left = 3; left >= 0; left--) {
            check.due("undo()", x.undo(), left);
        }
        check.due("undo() of an empty history", x.undo(), NONE);
    }

    @Says(in = HISTORY, text = RECORDS)
    static void aRegretIsRecorded(Check check) {
        Archive x = Archive.withFiles(1, 0, 1);
        x.pass(90);
        check.due("ask(0)", x.ask(0), NONE);
        check.due("count(6)", x.count(6), 1);
        check.due("undo()", x.undo(), 2);
        check.due("count(6) after undo()", x.count(6), 0);
    }

    @Says(in = HISTORY, text = RECORDS)
    static void aRunThatExecutesNoOrderIsRecorded(Check check) {
        Archive x = new Archive();
        check.due("run() of a0", x.runOf("a0"), 0);
        check.due("undo()", x.undo(), 0);
        check.due("undo() again", x.undo(), NONE);
    }

    @Says(in = HISTORY, text = RECORDS)
    static void aPassWithoutABurningIsRecorded(Check check) {
        Archive x = new Archive();
        x.pass(1);
        check.due("undo()", x.undo(), 0);
        check.due("now()", x.now(), 0);
    }

    @Says(in = HISTORY, text = RECORDS)
    static void aRefusedActionIsNotRecorded(Check check) {
        Archive x = Archive.withFiles(1, 0, 1);
        x.add(0, 51);
        x.ask(1);
        x.seal(0, 1, -1);
        x.lift(0, 0);
        x.refer(0, 1);
        x.reserve(0, 0);
        x.cancel(0, 1);
        x.pass(401);
        x.set(0, 29);
        x.run();
        check.due("undo()", x.undo(), 0);
        check.due("count(1)", x.count(1), 0);
    }

    @Says(in = HISTORY, text = FOUR)
    static void fourStatesAreHeld(Check check) {
        Archive x = Archive.withFiles(4, 0, 1);
        for (int left = 3; left >= 0; left--) {
            check.due("undo()", x.undo(), left);
            check.due("count(0)", x.count(0), left);
        }
        check.due("undo() of an empty history", x.undo(), NONE);
    }

    @Says(in = HISTORY, text = FOUR)
    static void theFifthStateDropsTheOldest(Check check) {
        Archive x = Archive.withFiles(5, 0, 1);
        for (int left = 3; left >= 0; left--) {
            check.due("undo()", x.undo(), left);
            check.due("count(0)", x.count(0), left + 1);
        }
        check.due("undo() of an empty history", x.undo(), NONE);
        check.due("count(0)", x.count(0), 1);
    }

    @Says(in = HISTORY, text = FOUR)
    static void afterManyActionsTheLatestFourStatesAreHeld(Check check) {
        Archive x = new Archive();
        for (int day = 1; day <= 100; day++) {
            x.pass(1);
        }
        x.undo();
        x.undo();
        x.pass(10);
        for (int day : new int[] {98, 97, 96}) {
            x.undo();
            check.due("now()", x.now(), day);
        }
        check.due("undo() of an empty history", x.undo(), NONE);
    }

    @Says(in = HISTORY, text = "The orders of run record no states by themselves.")
    static void aRunOfManyOrdersRecordsOneState(Check check) {
        Archive x = Archive.withFiles(1, 0, 1);
        check.due("run()", x.runOf("a0;a0;a0;d1;n0,1;s0,0;l0,0;f0,0;a0"), 9);
        check.due("undo()", x.undo(), 1);
        check.due("count(5)", x.count(5), 0);
        check.due("now()", x.now(), 0);
        check.due("count(0)", x.count(0), 1);
        check.due("undo() of add", x.undo(), 0);
    }

    @Says(in = HISTORY, text = NO_PART)
    static void undoChangesNoText(Check check) {
        Archive x = new Archive();
        x.write("a");
        x.pass(1);
        x.append('1');
        x.undo();
        check.due("fault()", x.fault(), NONE);
        check.due("clearText()", x.clearText(), 2);
    }

    @Says(in = HISTORY, text = NO_PART)
    static void undoChangesNoReport(Check check) {
        Archive x = Archive.withFiles(1, 0, 1);
        x.runOf("a0;a1");
        check.due("undo()", x.undo(), 1);
        check.due("why(0)", x.why(0), 1);
        check.due("why(1)", x.why(1), 3);
        check.due("why(2)", x.why(2), 1);
        x.runOf("a0");
        x.undo();
        check.due("why(0) after a run of all orders", x.why(0), NONE);
    }

    @Says(in = HISTORY, text = NO_PART)
    static void undoTakesNoStateBackIntoTheHistory(Check check) {
        Archive x = Archive.withFiles(4, 0, 1);
        check.due("undo()", x.undo(), 3);
        check.due("undo()", x.undo(), 2);
        x.pass(1);
        check.due("undo() of pass", x.undo(), 2);
        check.due("undo() of add", x.undo(), 1);
    }

    // ---- Errors

    @Says(in = ERRORS, text = NOTHING)
    static void refusedCallsChangeNothing(Check check) {
        unchanged(check, "refused calls", Cases::someFiles, x -> {
            int[] answers = {x.add(5, 1), x.ask(3), x.seal(0, 2, 10000), x.lift(0, 2), x.refer(1, 0), x.refer(0, 1),
                x.reserve(2, 150), x.cancel(2, 151), x.pass(0), x.set(7, 90), x.append(31), x.why(3)};
            int[] due = {BAD_VALUE, NO_SUCH, BAD_VALUE, NO_SUCH, NO_SUCH, NO_SUCH, NOT_POSSIBLE, NO_SUCH, BAD_VALUE,
                NO_SUCH, BAD_VALUE, BAD_VALUE};
            for (int i = 0; i < due.length; i++) {
                check.due("refused call " + i, answers[i], due[i]);
            }
        });
    }

    @Says(in = ERRORS, text = NOTHING)
    static void aRunWithABadTextLeavesTheReportOfTheOneBefore(Check check) {
        Steps before = x -> {
            someFiles(x);
            x.write("a2;x");
        };
        refused(check, "run()", before, Archive::run, BAD_TEXT);
        check.due("why(0)", made(before).why(0), 1);
    }

    @Says(in = ERRORS, text = IN_ORDER)
    static void badValuesComeAheadOfTooMany(Check check) {
        Steps full = x -> {
            for (int i = 0; i < 24; i++) {
                x.add(4, 1);
            }
            x.set(SHELF, 50);
        };
        refused(check, "add(5, 1) when full", full, x -> x.add(5, 1), BAD_VALUE);
        refused(check, "add(0, 51) when full", full, x -> x.add(0, 51), BAD_VALUE);
        Steps written = x -> x.write("a0;".repeat(20));
        refused(check, "append(127) to 60", written, x -> x.append(127), BAD_VALUE);
        refused(check, "append(31) to 60", written, x -> x.append(31), BAD_VALUE);
    }

    @Says(in = ERRORS, text = IN_ORDER)
    static void noSuchComesAheadOfBadValue(Check check) {
        refused(check, "seal(8, 2, -2)", Cases::someFiles, x -> x.seal(8, 2, -2), NO_SUCH);
        refused(check, "seal(0, 0, -2)", Cases::someFiles, x -> x.seal(0, 0, -2), NO_SUCH);
        refused(check, "reserve(0, 0)", Cases::someFiles, x -> x.reserve(0, 0), NO_SUCH);
        refused(check, "set(7, 0)", Cases::someFiles, x -> x.set(7, 0), NO_SUCH);
        refused(check, "set(-1, 0)", Cases::someFiles, x -> x.set(-1, 0), NO_SUCH);
        refused(check, "file(0, 10)", Cases::someFiles, x -> x.file(0, 10), NO_SUCH);
    }

    @Says(in = ERRORS, text = IN_ORDER)
    static void theErrorsOfReserveInTheirOrder(Check check) {
        Steps full = x -> {
            x.add(4, 1);
            x.pass(1);
            for (int day = 2; day <= 9; day++) {
                x.reserve(0, day);
            }
        };
        refused(check, "no file, bad day, eight", full, x -> x.reserve(1, 1), NO_SUCH);
        refused(check, "no file, eight", full, x -> x.reserve(1, 10), NO_SUCH);
        refused(check, "bad day, eight", full, x -> x.reserve(0, 1), BAD_VALUE);
        refused(check, "late day, eight", full, x -> x.reserve(0, 10000), BAD_VALUE);
        refused(check, "the same one, eight", full, x -> x.reserve(0, 9), NOT_POSSIBLE);
        refused(check, "a ninth one", full, x -> x.reserve(0, 10), TOO_MANY);
    }

    @Says(in = ERRORS, text = IN_ORDER)
    static void badDaysComeAheadOfNotPossible(Check check) {
        Steps late = x -> x.letPass(9999);
        refused(check, "pass(401) on the day 9999", late, x -> x.pass(401), BAD_VALUE);
        refused(check, "pass(0) on the day 9999", late, x -> x.pass(0), BAD_VALUE);
        refused(check, "pass(1) on the day 9999", late, x -> x.pass(1), NOT_POSSIBLE);
    }

    @Says(in = ERRORS, text = "NONE is not an error code.")
    static void runGoesOnAfterNone(Check check) {
        Archive x = Archive.withFiles(1, 0, 1);
        check.due("run()", x.runOf("d90;a0;a0;n0,1"), 4);
        check.due("count(6)", x.count(6), 2);
        check.due("why(0)", x.why(0), NONE);
    }

    @Says(in = ERRORS, text = NO_FILE)
    static void aBurntFileIsNoSuchFile(Check check) {
        for (Call call : callsWithFile(0)) {
            refused(check, "a call with a burnt file", Cases::someFiles, call, NO_SUCH);
        }
    }

    @Says(in = ERRORS, text = NO_FILE)
    static void aFileThatDidNotComeIsNoSuchFile(Check check) {
        for (int file : new int[] {3, 24, 200, -1, NONE, LOWEST, HIGHEST}) {
            for (Call call : callsWithFile(file)) {
                refused(check, "a call with the file " + file, Cases::someFiles, call, NO_SUCH);
            }
        }
    }

    @Says(in = ERRORS, text = NO_FILE)
    static void anEmptyArchiveHasNoSuchFile(Check check) {
        for (int file : new int[] {0, 1, -1}) {
            for (Call call : callsWithFile(file)) {
                refused(check, "a call with the file " + file, x -> { }, call, NO_SUCH);
            }
        }
        for (Call call : callsWithFile(199)) {
            Archive x = Archive.usedUp();
            check.due("a call with the file 199, which was burnt", call.on(x), NO_SUCH);
        }
    }

    private static Call[] callsWithFile(int file) {
        return new Call[] {x -> x.seal(1, file, -1), x -> x.lift(3, file), x -> x.refer(file, 1),
            x -> x.refer(1, file), x -> x.refer(file, file), x -> x.reserve(file, 300), x -> x.cancel(file, 150),
            x -> x.file(file, 0), x -> x.sealOf(3, file), x -> x.stays(file), x -> x.keeper(file),
            x -> x.burntIn(file)};
    }

    @Says(in = ERRORS, text = "`NO_SUCH = -1`: There is no such file, holder, seal, reservation or setting.")
    static void noSuchIsMinus1(Check check) {
        Archive x = Archive.withFiles(1, 0, 1);
        check.due("NO_SUCH", ForgettingArchive.NO_SUCH, -1);
        check.due("no such file", x.stays(1), -1);
        check.due("no such holder", x.sealOf(8, 0), -1);
        check.due("no such seal", x.lift(0, 0), -1);
        check.due("no such reservation", x.cancel(0, 1), -1);
        check.due("no such setting", x.setting(7), -1);
    }

    @Says(in = ERRORS, text = "`BAD_VALUE = -2`: Another argument is out of its range.")
    static void badValueIsMinus2(Check check) {
        check.due("BAD_VALUE", ForgettingArchive.BAD_VALUE, -2);
        check.due("add(0, 0)", new Archive().add(0, 0), -2);
    }

    @Says(in = ERRORS, text = "`BAD_TEXT = -3`: The text has a fault.")
    static void badTextIsMinus3(Check check) {
        check.due("BAD_TEXT", ForgettingArchive.BAD_TEXT, -3);
        check.due("run()", new Archive().run(), -3);
    }

    @Says(in = ERRORS, text = "`TOO_MANY = -4`: There is no more room.")
    static void tooManyIsMinus4(Check check) {
        check.due("TOO_MANY", ForgettingArchive.TOO_MANY, -4);
        check.due("add(0, 1)", Archive.withFiles(24, 0, 1).add(0, 1), -4);
    }

    @Says(in = ERRORS, text = "`NOT_POSSIBLE = -5`: The call is not possible in the present state.")
    static void notPossibleIsMinus5(Check check) {
        check.due("NOT_POSSIBLE", ForgettingArchive.NOT_POSSIBLE, -5);
        check.due("pass(1)", Archive.onDay(9999).pass(1), -5);
    }

    @Says(in = ERRORS, text = "`NONE = -6`: There is no result; this is not an error code.")
    static void noneIsMinus6(Check check) {
        check.due("NONE", ForgettingArchive.NONE, -6);
        check.due("fileAt(0)", new Archive().fileAt(0), -6);
    }

    @Says(in = ERRORS, text = "`PERIOD = 0, LOYAL = 5, SHELF = 6`: The settings; PERIOD is that of the kind 0, and the "
        + "next four numbers are those of the kinds 1 to 4.")
    static void theSettingsHaveTheirNumbers(Check check) {
        check.due("PERIOD", ForgettingArchive.PERIOD, 0);
        check.due("LOYAL", ForgettingArchive.LOYAL, 5);
        check.due("SHELF", ForgettingArchive.SHELF, 6);
        for (int kind = 0; kind <= 4; kind++) {
            Archive x = Archive.withFiles(1, kind, 1);
            x.set(ForgettingArchive.PERIOD + kind, 100 + kind);
            check.due("file(0, 6) of the kind " + kind, x.file(0, 6), 100 + kind);
            for (int other = 0; other <= 4; other++) {
                x.set(ForgettingArchive.PERIOD + other, other == kind ? 100 : 200);
            }
            check.due("file(0, 6) of the kind " + kind, x.file(0, 6), 100);
        }
    }
}
