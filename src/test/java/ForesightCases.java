/** The document's promises 26 to 29: what would be. */
final class ForesightCases extends Cases {
    private static final String STAYS =
        "Tells why a file would stay if there were a burning now (with the day of now as it is).";
    private static final String KEEPER = "Finds the file that keeps a file, if there were a burning now: the lowest file "
        + "that stays and refers to it (it can be the file itself, if it refers to itself and stays by another one).";
    private static final String DAYS = "Returns the number of days, 1 to 3000 (days after the day 9999 would be like "
        + "others)";

    private ForesightCases() {
    }

    /** On the day 30 all files of the kind 0 are due, and there is no burning. */
    private static Archive dueFiles(int files) {
        Archive x = Archive.withFiles(files, 0, 1);
        x.set(0, 30);
        x.pass(30);
        return x;
    }

    // ---- Promise 26: stays

    @Says(in = "Promise 26", text = STAYS)
    static void staysIsAboutTheDayOfNow(Check check) {
        Archive x = Archive.withFiles(1, 0, 1);
        x.set(0, 30);
        check.due("stays(0) on the day 0", x.stays(0), 1);
        x.pass(29);
        check.due("stays(0) on the day before it is due", x.stays(0), 1);
        x.pass(1);
        check.due("stays(0) on the day on which it is due", x.stays(0), 0);
    }

    @Says(in = "Promise 26", text = STAYS)
    static void staysIsAboutSealsOfNow(Check check) {
        Archive x = dueFiles(1);
        x.seal(0, 0, 30);
        check.due("stays(0) on the last day", x.stays(0), 2);
        x.pass(1);
        check.due("stays(0) on the next day", x.stays(0), 0);
        x.seal(0, 0, -1);
        check.due("stays(0) without a last day", x.stays(0), 2);
    }

    @Says(in = "Promise 26", text = STAYS)
    static void staysAfterABurningIsAboutTheNextOne(Check check) {
        Archive x = Archive.withFiles(2, 0, 1);
        x.refer(1, 0);
        x.seal(0, 1, 90);
        x.pass(90);
        check.due("stays(0) on the day of the burning", x.stays(0), 4);
        x.pass(1);
        check.due("stays(0) on the next day", x.stays(0), 0);
        check.due("stays(1) on the next day", x.stays(1), 0);
    }

    @Says(in = "Promise 26", text = "`file`: number of a file")
    static void staysTakesTheStoredFiles(Check check) {
        Archive x = Archive.withFiles(24, 0, 1);
        x.pass(89);
        check.due("stays(0)", x.stays(0), 1);
        check.due("stays(23)", x.stays(23), 1);
    }

    @Says(in = "Promise 26", text = "Returns the first reason that applies, 1 to 4")
    static void staysTellsTheFirstReason(Check check) {
        Archive x = dueFiles(5);
        x.ask(0);
        x.seal(0, 0, -1);
        x.seal(0, 1, -1);
        x.reserve(1, 31);
        x.reserve(2, 31);
        x.refer(0, 2);
        x.refer(2, 3);
        x.refer(3, 1);
        int[] due = {1, 2, 3, 4, 0};
        for (int file = 0; file < 5; file++) {
            check.due("stays(" + file + ")", x.stays(file), due[file]);
        }
    }

    @Says(in = "Promise 26", text = "0 if it would be burnt")
    static void staysTells0(Check check) {
        Archive x = dueFiles(3);
        x.refer(0, 1);
        x.refer(1, 0);
        x.refer(2, 2);
        for (int file = 0; file < 3; file++) {
            check.due("stays(" + file + ")", x.stays(file), 0);
        }
        check.due("count(0)", x.count(0), 3);
    }

    @Says(in = "Promise 26", text = "NO_SUCH if there is no such file.")
    static void staysRefusesOtherFiles(Check check) {
        refusedBeyond(check, "stays(x)", Cases::someFiles, (x, file) -> x.stays(file), 1, 2, NO_SUCH);
        refused(check, "stays(0) when empty", x -> { }, x -> x.stays(0), NO_SUCH);
    }

    // ---- Promise 27: keeper

    @Says(in = "Promise 27", text = KEEPER)
    static void theKeeperIsTheLowestOfThem(Check check) {
        Archive x = dueFiles(24);
        for (int file = 0; file < 24; file++) {
            x.refer(file, 12);
        }
        check.due("keeper(12), all would be burnt", x.keeper(12), NONE);
        x.seal(0, 23, -1);
        check.due("keeper(12), sealed 23", x.keeper(12), 12);
        x.refer(12, 0);
        check.due("keeper(12), not itself", x.keeper(12), 0);
        x.refer(12, 13);
        check.due("keeper(12), not the one after it", x.keeper(12), 13);
        x.refer(13, 13);
        check.due("keeper(12), 13 does not refer to it", x.keeper(12), 23);
        x.seal(0, 2, -1);
        check.due("keeper(12), sealed 2", x.keeper(12), 2);
    }

    @Says(in = "Promise 27", text = KEEPER)
    static void theKeeperCanBeTheFileItself(Check check) {
        Archive x = dueFiles(2);
        x.refer(0, 0);
        x.refer(1, 0);
        x.seal(0, 1, -1);
        check.due("keeper(0)", x.keeper(0), 0);
        x.lift(0, 1);
        check.due("keeper(0), it would be burnt", x.keeper(0), NONE);
    }

    @Says(in = "Promise 27", text = KEEPER)
    static void aKeeperStaysForAnyReason(Check check) {
        for (int reason = 1; reason <= 4; reason++) {
            Archive x = dueFiles(3);
            x.refer(1, 0);
            switch (reason) {
                case 1: x.ask(1); break;
                case 2: x.seal(0, 1, 30); break;
                case 3: x.reserve(1, 31); break;
                default:
                    x.seal(0, 2, -1);
                    x.refer(2, 1);
                    break;
            }
            check.due("stays(1)", x.stays(1), reason);
            check.due("keeper(0) by the reason " + reason, x.keeper(0), 1);
        }
    }

    @Says(in = "Promise 27", text = "the lowest file that stays and refers to it")
    static void theKeeperInACircleIsTheLowestEvenIfItStaysByTheFile(Check check) {
        Archive x = dueFiles(3);
        x.refer(0, 1);
        x.refer(1, 0);
        x.refer(2, 1);
        x.seal(0, 2, -1);
        check.due("keeper(1)", x.keeper(1), 0);
        check.due("keeper(0)", x.keeper(0), 1);
    }

    @Says(in = "Promise 27", text = "`file`: number of a file")
    static void keeperTakesTheStoredFiles(Check check) {
        Archive x = dueFiles(24);
        x.refer(1, 0);
        x.refer(22, 23);
        x.ask(1);
        x.ask(22);
        check.due("keeper(0)", x.keeper(0), 1);
        check.due("keeper(23)", x.keeper(23), 22);
    }

    @Says(in = "Promise 27", text = "Returns the number of the file")
    static void theKeeperCanBeTheFile0(Check check) {
        Archive x = dueFiles(2);
        x.refer(0, 1);
        x.reserve(0, 9999);
        check.due("keeper(1)", x.keeper(1), 0);
    }

    @Says(in = "Promise 27", text = "NO_SUCH if there is no such file")
    static void keeperRefusesOtherFiles(Check check) {
        refusedBeyond(check, "keeper(x)", Cases::someFiles, (x, file) -> x.keeper(file), 1, 2, NO_SUCH);
        refused(check, "keeper(0) when empty", x -> { }, x -> x.keeper(0), NO_SUCH);
    }

    @Says(in = "Promise 27", text = "NONE if stays tells another number than 4 for it.")
    static void keeperIsNoneForOtherReasons(Check check) {
        Archive x = dueFiles(5);
        for (int file = 0; file < 4; file++) {
            x.refer(4, file);
        }
        x.ask(0);
        x.seal(0, 1, -1);
        x.reserve(2, 99);
        x.ask(4);
        for (int file = 0; file < 4; file++) {
            x.refer(4, file);
            check.due("keeper(" + file + ")", x.keeper(file), file == 3 ? 4 : NONE);
        }
        check.due("keeper(4)", x.keeper(4), NONE);
        check.due("keeper(0), which would stay anyway", x.keeper(0), NONE);
        x.refer(4, 4);
        check.due("keeper(3), which would be burnt", x.keeper(3), NONE);
    }

    // ---- Promise 28: burntIn

    @Says(in = "Promise 28", text = "Tells in how many days a file would be burnt, if nothing else were done.")
    static void burntInTreatsReservationsAndSeals(Check check) {
        Archive x = Archive.withFiles(1, 0, 1);
        check.due("burntIn(0)", x.burntIn(0), 90);
        x.reserve(0, 90);
        check.due("burntIn(0), asked on the day 90", x.burntIn(0), 180);
        x.seal(0, 0, 180);
        check.due("burntIn(0), sealed up to 180", x.burntIn(0), 270);
        x.seal(0, 0, 179);
        check.due("burntIn(0), sealed up to 179", x.burntIn(0), 180);
        x.reserve(0, 181);
        check.due("burntIn(0), reserved for 181", x.burntIn(0), 360);
    }

    @Says(in = "Promise 28", text = "Tells in how many days a file would be burnt, if nothing else were done.")
    static void burntInTreatsReferences(Check check) {
        Archive x = Archive.withFiles(1, 0, 1);
        x.add(2, 1);
        x.refer(1, 0);
        check.due("burntIn(0)", x.burntIn(0), 360);
        x.ask(1);
        x.pass(1);
        x.ask(1);
        x.ask(1);
        check.due("burntIn(0), kept by a loyal file", x.burntIn(0), 809);
    }

    @Says(in = "Promise 28", text = "Tells in how many days a file would be burnt, if nothing else were done.")
    static void burntInChangesNothing(Check check) {
        unchanged(check, "burntIn", Cases::someFiles, x -> {
            check.due("burntIn(1)", x.burntIn(1), NONE);
            check.due("burntIn(2)", x.burntIn(2), NONE);
        });
        Steps loose = x -> {
            someFiles(x);
            x.lift(4, 2);
            x.cancel(1, 9999);
        };
        unchanged(check, "burntIn", loose, x -> {
            check.due("burntIn(1)", x.burntIn(1), 410);
            check.due("burntIn(2)", x.burntIn(2), 410);
        });
    }

    @Says(in = "Promise 28", text = "`file`: number of a file")
    static void burntInTakesTheStoredFiles(Check check) {
        Archive x = Archive.withFiles(24, 0, 1);
        x.ask(23);
        x.pass(1);
        x.ask(23);
        check.due("burntIn(0)", x.burntIn(0), 89);
        check.due("burntIn(23)", x.burntIn(23), 179);
    }

    @Says(in = "Promise 28", text = DAYS)
    static void burntTomorrow(Check check) {
        Archive x = Archive.withFiles(1, 0, 1);
        x.pass(89);
        check.due("burntIn(0)", x.burntIn(0), 1);
    }

    @Says(in = "Promise 28", text = DAYS)
    static void onTheDayOfABurningItTellsOfTheNextOne(Check check) {
        Archive x = Archive.withFiles(1, 0, 1);
        x.seal(0, 0, 90);
        x.pass(90);
        check.due("stays(0)", x.stays(0), 2);
        check.due("burntIn(0)", x.burntIn(0), 90);
        x.lift(0, 0);
        check.due("stays(0)", x.stays(0), 0);
        check.due("burntIn(0)", x.burntIn(0), 90);
    }

    @Says(in = "Promise 28", text = DAYS)
    static void burntIn3000Days(Check check) {
        Archive x = Archive.withFiles(1, 0, 1);
        x.pass(60);
        x.seal(0, 0, 3059);
        check.due("burntIn(0) on the day 60", x.burntIn(0), 3000);
    }

    @Says(in = "Promise 28", text = "(days after the day 9999 would be like others)")
    static void daysAfterTheDay9999HaveBurnings(Check check) {
        Archive x = Archive.onDay(9999);
        x.add(0, 1);
        x.add(1, 1);
        check.due("burntIn(0), due on the day 10089", x.burntIn(0), 10170 - 9999);
        check.due("burntIn(1), due on the day 10179", x.burntIn(1), 10260 - 9999);
        x.seal(0, 0, 9999);
        check.due("burntIn(0), sealed up to 9999", x.burntIn(0), 10170 - 9999);
        check.due("now()", x.now(), 9999);
    }

    @Says(in = "Promise 28", text = "(days after the day 9999 would be like others)")
    static void onDaysAfterTheDay9999SealsWithoutALastDayHold(Check check) {
        Archive x = Archive.onDay(9999);
        x.add(0, 1);
        x.add(0, 1);
        x.seal(7, 0, -1);
        check.due("burntIn(0)", x.burntIn(0), NONE);
        x.refer(0, 1);
        check.due("burntIn(1)", x.burntIn(1), NONE);
    }

    @Says(in = "Promise 28", text = "(days after the day 9999 would be like others)")
    static void burntIn3000DaysAfterTheDay9999(Check check) {
        // The day 9960 is 60 days after a burning, so that the burning of the day 12960 is 3000 days away.
        Archive x = Archive.onDay(9960);
        x.add(0, 1);
        x.set(0, 1500);
        x.set(LOYAL, 1);
        x.ask(0);
        check.due("burntIn(0), due on the day 12960", x.burntIn(0), 3000);
        Archive y = Archive.onDay(9961);
        y.add(0, 1);
        y.set(0, 1500);
        y.set(LOYAL, 1);
        y.ask(0);
        check.due("burntIn(0), due on the day 12961", y.burntIn(0), NONE);
    }

    @Says(in = "Promise 28", text = "NO_SUCH if there is no such file")
    static void burntInRefusesOtherFiles(Check check) {
        refusedBeyond(check, "burntIn(x)", Cases::someFiles, (x, file) -> x.burntIn(file), 1, 2, NO_SUCH);
        refused(check, "burntIn(0) when empty", x -> { }, x -> x.burntIn(0), NO_SUCH);
    }

    @Says(in = "Promise 28", text = "NONE if it would not be burnt within 3000 days.")
    static void in3001DaysIsNone(Check check) {
        Archive x = Archive.withFiles(1, 0, 1);
        x.pass(59);
        x.seal(0, 0, 3059);
        check.due("burntIn(0) on the day 59", x.burntIn(0), NONE);
        x.pass(1);
        check.due("burntIn(0) on the day 60", x.burntIn(0), 3000);
    }

    @Says(in = "Promise 28", text = "NONE if it would not be burnt within 3000 days.")
    static void aFileSealedWithoutALastDayIsNeverBurnt(Check check) {
        Archive x = Archive.withFiles(1, 0, 1);
        x.seal(0, 0, -1);
        check.due("burntIn(0)", x.burntIn(0), NONE);
    }

    @Says(in = "Promise 28", text = "NONE if it would not be burnt within 3000 days.")
    static void aFarReservationKeepsAFile(Check check) {
        Archive x = Archive.withFiles(1, 0, 1);
        x.reserve(0, 3000);
        check.due("burntIn(0), reserved for 3000", x.burntIn(0), NONE);
        x.cancel(0, 3000);
        x.reserve(0, 2700);
        check.due("burntIn(0), reserved for 2700", x.burntIn(0), 2790);
    }

    // ---- Promise 29: ifPassed

    @Says(in = "Promise 29", text = "Tells what days would bring, if nothing else were done.")
    static void ifPassedIsWhatPassBrings(Check check) {
        Steps before = x -> {
            someFiles(x);
            x.lift(4, 2);
            x.cancel(1, 9999);
            x.add(0, 7);
            x.reserve(3, 270);
        };
        for (int days = 1; days <= 400; days++) {
            Archive x = made(before);
            int files = x.ifPassed(days, 0);
            int pages = x.ifPassed(days, 1);
            int askings = x.ifPassed(days, 2);
            int askedBefore = x.count(5);
            int pagesBefore = x.count(4);
            check.due("pass(" + days + ")", x.pass(days), files);
            check.due("pages of " + days, x.count(4) - pagesBefore, pages);
            check.due("askings of " + days, x.count(5) - askedBefore, askings);
        }
    }

    @Says(in = "Promise 29", text = "Tells what days would bring, if nothing else were done.")
    static void ifPassedChangesNothing(Check check) {
        Steps before = x -> {
            someFiles(x);
            x.lift(4, 2);
            x.cancel(1, 9999);
            x.add(0, 7);
        };
        unchanged(check, "ifPassed", before, x -> {
            check.due("ifPassed(400, 0)", x.ifPassed(400, 0), 1);
            check.due("ifPassed(400, 1)", x.ifPassed(400, 1), 7);
            check.due("ifPassed(400, 2)", x.ifPassed(400, 2), 1);
        });
    }

    @Says(in = "Promise 29", text = "`days`: 1 to 400")
    static void ifPassedTakes1To400(Check check) {
        Archive x = Archive.withFiles(1, 0, 3);
        x.add(3, 5);
        x.set(3, 360);
        x.pass(50);
        check.due("ifPassed(39, 0)", x.ifPassed(39, 0), 0);
        check.due("ifPassed(40, 0)", x.ifPassed(40, 0), 1);
        check.due("ifPassed(309, 0)", x.ifPassed(309, 0), 1);
        check.due("ifPassed(310, 0)", x.ifPassed(310, 0), 2);
        check.due("ifPassed(400, 0)", x.ifPassed(400, 0), 2);
        x.pass(39);
        check.due("ifPassed(1, 0)", x.ifPassed(1, 0), 1);
        check.due("ifPassed(1, 1)", x.ifPassed(1, 1), 3);
        Archive y = Archive.withFiles(1, 0, 3);
        y.pass(50);
        y.seal(0, 0, 449);
        check.due("ifPassed(399, 0)", y.ifPassed(399, 0), 0);
        check.due("ifPassed(400, 0)", y.ifPassed(400, 0), 1);
    }

    @Says(in = "Promise 29", text = "`days`: 1 to 400")
    static void ifPassedTakesDaysAfterTheDay9999(Check check) {
        Archive x = Archive.onDay(9999);
        x.add(0, 3);
        x.add(0, 5);
        x.seal(0, 1, -1);
        check.due("ifPassed(170, 0)", x.ifPassed(170, 0), 0);
        check.due("ifPassed(171, 0)", x.ifPassed(171, 0), 1);
        check.due("ifPassed(400, 1)", x.ifPassed(400, 1), 3);
        check.due("ifPassed(400, 2)", x.ifPassed(400, 2), 0);
        check.due("now()", x.now(), 9999);
    }

    @Says(in = "Promise 29", text = "`what`: 0 for the number of files that would be burnt; 1 for their pages; 2 for the "
        + "number of askings by reservations")
    static void ifPassedTellsFilesPagesAndAskings(Check check) {
        Archive x = new Archive();
        x.set(SHELF, 600);
        for (int i = 0; i < 24; i++) {
            x.add(0, 25);
        }
        for (int day = 1; day <= 8; day++) {
            x.reserve(0, day);
        }
        check.due("ifPassed(90, 0)", x.ifPassed(90, 0), 23);
        check.due("ifPassed(90, 1)", x.ifPassed(90, 1), 575);
        check.due("ifPassed(7, 2)", x.ifPassed(7, 2), 7);
        check.due("ifPassed(8, 2)", x.ifPassed(8, 2), 8);
        check.due("ifPassed(400, 0)", x.ifPassed(400, 0), 24);
        check.due("ifPassed(400, 1)", x.ifPassed(400, 1), 600);
        check.due("ifPassed(400, 2)", x.ifPassed(400, 2), 8);
    }

    @Says(in = "Promise 29", text = "Returns the number")
    static void whatWasBurntBeforeIsNotCounted(Check check) {
        Archive x = Archive.withFiles(3, 0, 9);
        x.ask(0);
        x.pass(90);
        x.add(0, 4);
        check.due("ifPassed(90, 0)", x.ifPassed(90, 0), 1);
        check.due("ifPassed(90, 1)", x.ifPassed(90, 1), 4);
        check.due("ifPassed(90, 2)", x.ifPassed(90, 2), 0);
    }

    @Says(in = "Promise 29", text = "Returns the number")
    static void toAnEmptyArchiveDaysBringNothing(Check check) {
        for (int what = 0; what <= 2; what++) {
            check.due("ifPassed(400, " + what + ") of a new archive", new Archive().ifPassed(400, what), 0);
            check.due("ifPassed(400, " + what + ") after 200 files", Archive.usedUp().ifPassed(400, what), 0);
        }
    }

    @Says(in = "Promise 29", text = "BAD_VALUE if an argument is out of range.")
    static void ifPassedRefusesOtherDays(Check check) {
        refusedBeyond(check, "ifPassed(x, 0)", Cases::someFiles, (x, days) -> x.ifPassed(days, 0), 1, 400, BAD_VALUE);
        refused(check, "ifPassed(-1, 0)", Cases::someFiles, x -> x.ifPassed(-1, 0), BAD_VALUE);
    }

    @Says(in = "Promise 29", text = "BAD_VALUE if an argument is out of range.")
    static void ifPassedRefusesOthers(Check check) {
        refusedBeyond(check, "ifPassed(1, x)", Cases::someFiles, (x, what) -> x.ifPassed(1, what), 0, 2, BAD_VALUE);
    }
}
