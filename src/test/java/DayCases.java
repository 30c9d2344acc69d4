/** The document's "Days that pass". */
final class DayCases extends Cases {
    private static final String DAYS = "Days that pass";
    private static final String A_DAY = "When a day passes, now becomes greater by 1; then the reservations of this day "
        + "are treated, in the ascending order of their files; then, if now can be divided by 90, there is a burning.";
    private static final String STAYS = "In a burning, a file stays for the first of these reasons that applies: 1 it is "
        + "due on a later day than now; 2 a seal on it holds on this day; 3 there is a reservation for it; 4 a file that "
        + "stays, for whatever reason, refers to it.";
    private static final String BURNT = "All other files are burnt: they are removed, and for each of them, in the "
        + "ascending order of their numbers, a trace is put at the end of the list of traces; if there are more than 12 "
        + "traces then, the first one is removed.";
    private static final String GONE = "References to a burnt file do not exist any more.";
    private static final String CIRCLES =
        "(Files that refer only to one another, or to themselves, do not stay by that.)";

    private DayCases() {
    }

    @Says(in = DAYS, text = A_DAY)
    static void nowBecomesGreaterBy1ADay(Check check) {
        Archive x = new Archive();
        for (int day = 1; day <= 100; day++) {
            x.pass(1);
            check.due("now()", x.now(), day);
        }
    }

    @Says(in = DAYS, text = A_DAY)
    static void burningsAreOnDaysThatCanBeDividedBy90(Check check) {
        Archive x = new Archive();
        check.due("count(7) on the day 0", x.count(7), 0);
        x.pass(89);
        check.due("count(7) on the day 89", x.count(7), 0);
        x.pass(1);
        check.due("count(7) on the day 90", x.count(7), 1);
        x.pass(89);
        check.due("count(7) on the day 179", x.count(7), 1);
        x.pass(1);
        check.due("count(7) on the day 180", x.count(7), 2);
    }

    @Says(in = DAYS, text = A_DAY)
    static void theLastBurningIsOnTheDay9990(Check check) {
        Archive x = Archive.onDay(9989);
        check.due("count(7) on the day 9989", x.count(7), 110);
        x.pass(1);
        check.due("count(7) on the day 9990", x.count(7), 111);
        x.pass(9);
        check.due("count(7) on the day 9999", x.count(7), 111);
    }

    @Says(in = DAYS, text = A_DAY)
    static void aPassOver400DaysHasEachOfItsBurnings(Check check) {
        Archive x = Archive.onDay(50);
        x.pass(400);
        check.due("count(7) on the day 450", x.count(7), 5);
    }

    @Says(in = DAYS, text = A_DAY)
    static void theReservationsOfADayAreTreatedAheadOfItsBurning(Check check) {
        Archive x = Archive.withFiles(2, 0, 1);
        x.reserve(0, 90);
        check.due("pass(90)", x.pass(90), 1);
        check.same("what is stored", x.stored(), "0");
        check.due("stays(0)", x.stays(0), 1);
        check.due("file(0, 6)", x.file(0, 6), 180);
        check.due("file(0, 9)", x.file(0, 9), 0);
    }

    @Says(in = DAYS, text = A_DAY)
    static void theReservationsOfADayAreTreatedWhateverTheirOrder(Check check) {
        Archive x = Archive.withFiles(4, 0, 1);
        x.reserve(3, 90);
        x.reserve(1, 90);
        x.reserve(2, 90);
        check.due("pass(90)", x.pass(90), 1);
        check.same("what is stored", x.stored(), "1 2 3");
        check.due("count(5)", x.count(5), 3);
    }

    // ---- reasons

    @Says(in = DAYS, text = STAYS)
    static void aFileThatIsDueADayLaterStays(Check check) {
        Archive x = Archive.onDay(1);
        x.add(0, 1);
        check.due("file(0, 6)", x.file(0, 6), 91);
        check.due("pass(89)", x.pass(89), 0);
        check.due("stays(0)", x.stays(0), 1);
    }

    @Says(in = DAYS, text = STAYS)
    static void aFileThatIsDueOnTheDayIsBurnt(Check check) {
        Archive x = Archive.withFiles(1, 0, 1);
        check.due("file(0, 6)", x.file(0, 6), 90);
        check.due("pass(90)", x.pass(90), 1);
        check.due("count(0)", x.count(0), 0);
    }

    @Says(in = DAYS, text = STAYS)
    static void aFileWhoseSealEndsOnTheDayStays(Check check) {
        Archive x = Archive.withFiles(1, 0, 1);
        x.seal(0, 0, 90);
        check.due("pass(90)", x.pass(90), 0);
        check.due("stays(0)", x.stays(0), 2);
        check.due("pass(90)", x.pass(90), 1);
    }

    @Says(in = DAYS, text = STAYS)
    static void aFileWhoseSealsEndedOnTheDayBeforeIsBurnt(Check check) {
        Archive x = Archive.withFiles(1, 0, 1);
        x.seal(0, 0, 89);
        x.seal(7, 0, 10);
        check.due("pass(90)", x.pass(90), 1);
    }

    @Says(in = DAYS, text = STAYS)
    static void oneSealOfEightIsEnough(Check check) {
        Archive x = Archive.withFiles(1, 0, 1);
        for (int holder = 0; holder < 7; holder++) {
            x.seal(holder, 0, holder);
        }
        x.seal(7, 0, -1);
        check.due("pass(90)", x.pass(90), 0);
        check.due("stays(0)", x.stays(0), 2);
    }

    @Says(in = DAYS, text = STAYS)
    static void aFileReservedForTheNextDayStays(Check check) {
        Archive x = Archive.withFiles(2, 0, 1);
        x.reserve(1, 91);
        check.due("pass(90)", x.pass(90), 1);
        check.same("what is stored", x.stored(), "1");
        check.due("stays(1)", x.stays(1), 3);
        check.due("file(1, 9)", x.file(1, 9), 1);
    }

    @Says(in = DAYS, text = STAYS)
    static void aFileStaysByAReferrerThatIsNotDue(Check check) {
        Archive x = Archive.withFiles(1, 0, 1);
        x.add(1, 1);
        x.refer(1, 0);
        check.due("pass(90)", x.pass(90), 0);
        check.due("stays(1)", x.stays(1), 1);
        check.due("stays(0)", x.stays(0), 4);
        check.due("pass(90)", x.pass(90), 2);
    }

    @Says(in = DAYS, text = STAYS)
    static void aFileStaysByASealedReferrer(Check check) {
        Archive x = Archive.withFiles(2, 0, 1);
        x.seal(0, 1, 90);
        x.refer(1, 0);
        check.due("pass(90)", x.pass(90), 0);
        check.due("stays(1)", x.stays(1), 2);
        check.due("stays(0)", x.stays(0), 4);
    }

    @Says(in = DAYS, text = STAYS)
    static void aFileStaysByAReservedReferrer(Check check) {
        Archive x = Archive.withFiles(2, 0, 1);
        x.reserve(1, 91);
        x.refer(1, 0);
        check.due("pass(90)", x.pass(90), 0);
        check.due("stays(1)", x.stays(1), 3);
        check.due("stays(0)", x.stays(0), 4);
    }

    @Says(in = DAYS, text = STAYS)
    static void aChainOf24FilesStaysByItsFirst(Check check) {
        for (int step : new int[] {1, -1}) {
            int head = step > 0 ? 0 : 23;
            Archive x = Archive.withFiles(24, 0, 1);
            for (int link = 0, file = head; link < 23; link++, file += step) {
                x.refer(file, file + step);
            }
            x.seal(3, head, -1);
            check.due("pass(90)", x.pass(90), 0);
            check.due("stays(head)", x.stays(head), 2);
            for (int link = 1, file = head + step; link < 24; link++, file += step) {
                check.due("stays(" + file + ")", x.stays(file), 4);
                check.due("keeper(" + file + ")", x.keeper(file), file - step);
            }
            x.lift(3, head);
            check.due("pass(90) without the seal", x.pass(90), 24);
        }
    }

    @Says(in = DAYS, text = STAYS)
    static void aCircleStaysByAFileOutsideOfIt(Check check) {
        Archive x = Archive.withFiles(4, 0, 1);
        x.refer(0, 1);
        x.refer(1, 2);
        x.refer(2, 0);
        x.refer(3, 1);
        x.seal(0, 3, -1);
        check.due("pass(90)", x.pass(90), 0);
        check.due("stays(0)", x.stays(0), 4);
        check.due("stays(1)", x.stays(1), 4);
        check.due("stays(2)", x.stays(2), 4);
    }

    @Says(in = DAYS, text = STAYS)
    static void aFileDoesNotStayByAReferrerThatIsBurnt(Check check) {
        Archive x = Archive.withFiles(3, 0, 1);
        x.refer(0, 1);
        x.refer(1, 2);
        check.due("pass(90)", x.pass(90), 3);
    }

    @Says(in = DAYS, text = STAYS)
    static void aFileDoesNotStayBecauseItRefersToOneThatStays(Check check) {
        Archive x = Archive.withFiles(2, 0, 1);
        x.seal(0, 1, -1);
        x.refer(0, 1);
        check.due("pass(90)", x.pass(90), 1);
        check.same("what is stored", x.stored(), "1");
        check.due("stays(1)", x.stays(1), 2);
    }

    @Says(in = DAYS, text = STAYS)
    static void theFirstReasonIsTheOneThatCounts(Check check) {
        Archive x = Archive.withFiles(2, 0, 1);
        x.seal(0, 0, -1);
        x.reserve(0, 9000);
        x.refer(1, 0);
        x.seal(0, 1, -1);
        x.pass(89);
        check.due("stays(0) by all four", x.stays(0), 1);
        x.pass(1);
        check.due("stays(0) by the last three", x.stays(0), 2);
        x.lift(0, 0);
        check.due("stays(0) by the last two", x.stays(0), 3);
        x.cancel(0, 9000);
        check.due("stays(0) by the last one", x.stays(0), 4);
        x.refer(1, 1);
        check.due("stays(0) by none", x.stays(0), 0);
    }

    // ---- burnt files

    @Says(in = DAYS, text = BURNT)
    static void tracesAreInTheAscendingOrderOfNumbers(Check check) {
        Archive x = Archive.withFiles(5, 0, 1);
        x.seal(0, 2, -1);
        check.due("pass(90)", x.pass(90), 4);
        int[] latestFirst = {4, 3, 1, 0, NONE};
        for (int ago = 0; ago < 5; ago++) {
            check.due("trace(" + ago + ", 0)", x.trace(ago, 0), latestFirst[ago]);
        }
    }

    @Says(in = DAYS, text = BURNT)
    static void tracesOfALaterBurningComeLater(Check check) {
        Archive x = Archive.withFiles(1, 1, 1);
        x.add(0, 1);
        x.pass(180);
        check.due("trace(1, 0)", x.trace(1, 0), 1);
        check.due("trace(1, 3)", x.trace(1, 3), 90);
        check.due("trace(0, 0)", x.trace(0, 0), 0);
        check.due("trace(0, 3)", x.trace(0, 3), 180);
    }

    @Says(in = DAYS, text = BURNT)
    static void twelveTracesAreKept(Check check) {
        Archive x = Archive.withFiles(12, 0, 1);
        x.pass(90);
        check.due("count(9)", x.count(9), 12);
        check.due("trace(11, 0)", x.trace(11, 0), 0);
        check.due("trace(0, 0)", x.trace(0, 0), 11);
    }

    @Says(in = DAYS, text = BURNT)
    static void theThirteenthTraceRemovesTheFirst(Check check) {
        Archive x = Archive.withFiles(12, 0, 1);
        x.add(1, 7);
        x.pass(180);
        check.due("count(9)", x.count(9), 12);
        check.due("count(3)", x.count(3), 13);
        check.due("trace(12, 0)", x.trace(12, 0), NONE);
        check.due("trace(11, 0)", x.trace(11, 0), 1);
        check.due("trace(1, 0)", x.trace(1, 0), 11);
        int[] latest = {12, 1, 7, 180, 0};
        for (int what = 0; what < 5; what++) {
            check.due("trace(0, " + what + ")", x.trace(0, what), latest[what]);
        }
    }

    @Says(in = DAYS, text = BURNT)
    static void of24FilesBurntAtOnceTheLast12LeaveTraces(Check check) {
        Archive x = Archive.withFiles(24, 0, 1);
        check.due("pass(90)", x.pass(90), 24);
        check.due("count(9)", x.count(9), 12);
        for (int ago = 0; ago < 12; ago++) {
            check.due("trace(" + ago + ", 0)", x.trace(ago, 0), 23 - ago);
        }
    }

    @Says(in = DAYS, text = BURNT)
    static void theFilesThatAreLeftKeepTheirOrder(Check check) {
        Archive x = Archive.withFiles(24, 0, 1);
        for (int file : new int[] {1, 2, 7, 22}) {
            x.seal(0, file, -1);
        }
        check.due("pass(90)", x.pass(90), 20);
        x.add(0, 5);
        check.same("what is stored", x.stored(), "1 2 7 22 24");
        check.due("file(22, 7)", x.file(22, 7), 1);
        check.due("file(24, 1)", x.file(24, 1), 5);
        check.due("file(24, 7)", x.file(24, 7), 0);
    }

    @Says(in = DAYS, text = BURNT)
    static void aBurningCanBurnNothing(Check check) {
        Archive x = Archive.withFiles(1, 1, 1);
        check.due("pass(90)", x.pass(90), 0);
        check.due("count(7)", x.count(7), 1);
        check.due("count(9)", x.count(9), 0);
    }

    @Says(in = DAYS, text = BURNT)
    static void aBurningOfAnEmptyArchiveLeavesNoTrace(Check check) {
        Archive x = new Archive();
        check.due("pass(90)", x.pass(90), 0);
        check.due("count(7)", x.count(7), 1);
        check.due("count(9)", x.count(9), 0);
        check.due("trace(0, 0)", x.trace(0, 0), NONE);
    }

    @Says(in = DAYS, text = GONE)
    static void noReferenceToABurntFileIsLeft(Check check) {
        Archive x = Archive.withFiles(4, 0, 1);
        x.seal(0, 3, -1);
        x.refer(0, 1);
        x.refer(1, 0);
        x.refer(2, 2);
        x.pass(90);
        check.due("refer(3, 1)", x.refer(3, 1), NO_SUCH);
        check.due("file(3, 5)", x.file(3, 5), NONE);
        check.due("file(1, 8)", x.file(1, 8), NO_SUCH);
        x.add(0, 1);
        check.due("file(4, 5)", x.file(4, 5), NONE);
        check.due("file(4, 8)", x.file(4, 8), 0);
    }

    @Says(in = DAYS, text = GONE)
    static void theReferenceOfABurntFileIsNotCounted(Check check) {
        Archive x = Archive.withFiles(3, 0, 1);
        x.seal(0, 0, -1);
        x.refer(0, 0);
        x.refer(1, 0);
        x.refer(2, 0);
        check.due("file(0, 8)", x.file(0, 8), 3);
        x.pass(90);
        check.due("file(0, 8) after the burning", x.file(0, 8), 1);
    }

    @Says(in = DAYS, text = CIRCLES)
    static void filesThatReferToThemselvesDoNotStay(Check check) {
        Archive x = Archive.withFiles(2, 0, 1);
        x.refer(0, 0);
        x.refer(1, 1);
        check.due("pass(90)", x.pass(90), 2);
    }

    @Says(in = DAYS, text = CIRCLES)
    static void filesThatReferOnlyToOneAnotherDoNotStay(Check check) {
        Archive x = Archive.withFiles(24, 0, 1);
        for (int file = 0; file < 24; file++) {
            x.refer(file, (file + 1) % 24);
        }
        check.due("pass(90)", x.pass(90), 24);
    }
}
