/** The document's promises 11 to 16: text, report and history. */
final class TextCases extends Cases {
    private static final String RUN =
        "Executes the orders of the text, in their order, up to the first one whose method would return an error code.";

    private static final String WHY = "`what`: 0 for the index of the order at which it ended; 1 for the index of the "
        + "first character of this order in the text as it was then; 2 for minus the error code";

    private TextCases() {
    }

    // ---- Promise 11: append

    @Says(in = "Promise 11", text = "Appends a character to the text.")
    static void appendPutsTheCharacterAtTheEnd(Check check) {
        Archive x = new Archive();
        x.append('d');
        x.append('1');
        x.append('2');
        check.due("run()", x.run(), 1);
        check.due("now()", x.now(), 12);
    }

    @Says(in = "Promise 11", text = "`character`: 32 to 126")
    static void appendTakes32To126(Check check) {
        taken(check, "append(x)", x -> { }, (x, character) -> x.append(character), 32, 126);
    }

    @Says(in = "Promise 11", text = "Returns the length of the text")
    static void appendAnswersTheLengthFrom1To60(Check check) {
        Archive x = new Archive();
        for (int length = 1; length <= 60; length++) {
            check.due("append(126)", x.append(126), length);
        }
    }

    @Says(in = "Promise 11", text = "BAD_VALUE if character is out of range")
    static void appendRefusesOtherCharacters(Check check) {
        Steps written = x -> x.write("a0");
        refusedBeyond(check, "append(x)", written, (x, character) -> x.append(character), 32, 126, BAD_VALUE);
        for (int character : new int[] {-1, 0, 128, 255, 256, 65536 + 'a', -65536 + 'a'}) {
            refused(check, "append(" + character + ")", written, x -> x.append(character), BAD_VALUE);
        }
    }

    @Says(in = "Promise 11", text = "TOO_MANY if the text has 60 characters.")
    static void appendRefusesA61stCharacter(Check check) {
        Steps written = x -> x.write("a0;".repeat(19) + "d10");
        refused(check, "append('0')", written, x -> x.append('0'), TOO_MANY);
        refused(check, "append(32)", written, x -> x.append(32), TOO_MANY);
        Archive x = made(written);
        x.append('x');
        check.due("fault()", x.fault(), NONE);
    }

    // ---- Promise 12: clearText

    @Says(in = "Promise 12", text = "Empties the text.")
    static void clearTextLeavesNothingOfTheText(Check check) {
        Archive x = new Archive();
        x.write("a0;a0");
        x.clearText();
        check.due("fault()", x.fault(), 0);
        check.due("append('d')", x.append('d'), 1);
        check.due("fault() of d", x.fault(), 1);
    }

    @Says(in = "Promise 12", text = "Returns the length that the text had.")
    static void clearTextAnswersTheLengthsOfTheEmptyAndTheFullText(Check check) {
        Archive x = new Archive();
        check.due("clearText() of the empty text", x.clearText(), 0);
        x.write("x".repeat(60));
        check.due("clearText() of the full text", x.clearText(), 60);
        check.due("clearText() again", x.clearText(), 0);
        check.due("append(32)", x.append(32), 1);
    }

    // ---- Promise 13: fault

    @Says(in = "Promise 13", text = "Returns the fault of the text.")
    static void faultChangesNothing(Check check) {
        Steps written = x -> {
            someFiles(x);
            x.write("a1;d4;s");
        };
        unchanged(check, "fault()", written, Archive::fault);
    }

    @Says(in = "Promise 13", text = "Returns the fault")
    static void theFaultIsFrom0To60(Check check) {
        check.due("fault() of the empty text", new Archive().faultOf(""), 0);
        check.due("fault() of ;", new Archive().faultOf(";"), 0);
        check.due("fault() of the full text", new Archive().faultOf("a0;".repeat(20)), 60);
        check.due("fault() in the last place", new Archive().faultOf("a0;".repeat(19) + "a0a"), 59);
        Archive x = new Archive();
        x.write("a0;a0");
        for (int length = 6; length <= 60; length++) {
            x.append('x');
            check.due("fault() of " + length, x.fault(), 5);
        }
    }

    @Says(in = "Promise 13", text = "NONE if the text has no fault.")
    static void theFullTextCanBeWithoutAFault(Check check) {
        check.due("fault() of two", new Archive().faultOf("d1"), NONE);
        check.due("fault() of sixty", new Archive().faultOf("a0;".repeat(19) + "a10"), NONE);
    }

    // ---- Promise 14: run

    @Says(in = "Promise 14", text = RUN)
    static void ordersAreExecutedInTheirOrder(Check check) {
        Archive x = new Archive();
        check.due("run()", x.runOf("n0,1;s0,0;l0,0;d90;n0,2;a1;a0"), 7);
        check.due("count(3)", x.count(3), 1);
        check.due("count(5)", x.count(5), 1);
        check.due("count(6)", x.count(6), 1);
        check.same("what is stored", x.stored(), "1");
    }

    @Says(in = "Promise 14", text = RUN)
    static void noOrderAfterTheFirstErrorIsExecuted(Check check) {
        Archive x = new Archive();
        check.due("run()", x.runOf("n0,1;a1;n0,1;a0"), 1);
        check.due("count(1)", x.count(1), 1);
        check.due("count(5)", x.count(5), 0);
    }

    @Says(in = "Promise 14", text = RUN)
    static void eachOrderCanEndARun(Check check) {
        String[] orders = {"n0,50", "a3", "s0,0", "s0,3", "l3,0", "l2,2", "f0,1", "f1,0", "d400"};
        int[] errors = {TOO_MANY, NO_SUCH, NO_SUCH, NO_SUCH, NO_SUCH, NO_SUCH, NO_SUCH, NO_SUCH, NOT_POSSIBLE};
        for (int i = 0; i < orders.length; i++) {
            Archive x = made(Cases::someFiles);
            x.set(SHELF, 99);
            x.refer(2, 2);
            x.seal(0, 2, -1);
            x.seal(0, 1, -1);
            x.letPass(9600 - 130);
            check.due("run() of a2;" + orders[i], x.runOf("a2;" + orders[i] + ";a2"), 1);
            check.due("why(0)", x.why(0), 1);
            check.due("why(1)", x.why(1), 3);
            check.due("why(2) of " + orders[i], x.why(2), -errors[i]);
        }
    }

    @Says(in = "Promise 14", text = "The text does not change.")
    static void theTextCanBeRunAgain(Check check) {
        Archive x = Archive.withFiles(1, 0, 1);
        x.write("a0;d1");
        check.due("run()", x.run(), 2);
        check.due("run()", x.run(), 2);
        check.due("fault()", x.fault(), NONE);
        check.due("file(0, 4)", x.file(0, 4), 2);
        check.due("append('0')", x.append('0'), 6);
    }

    @Says(in = "Promise 14", text = "Returns the number of orders that were executed (without the one that would return "
        + "an error code)")
    static void runAnswers0To20(Check check) {
        check.due("run() of a1", Archive.withFiles(1, 0, 1).runOf("a1"), 0);
        check.due("run() of a0", Archive.withFiles(1, 0, 1).runOf("a0"), 1);
        check.due("run() of twenty orders", Archive.withFiles(1, 0, 1).runOf("a0;".repeat(19) + "a0"), 20);
        check.due("run() of nineteen and one", Archive.withFiles(1, 0, 1).runOf("a0;".repeat(19) + "a1"), 19);
    }

    @Says(in = "Promise 14", text = "BAD_TEXT if the text has a fault.")
    static void runRefusesATextWithAFault(Check check) {
        for (String text : new String[] {"", "x", "a2;", "a2;x", "a2;a200", "a2;a", "n1,1;d0", "a0;".repeat(20)}) {
            Steps written = x -> {
                someFiles(x);
                x.write(text);
            };
            refused(check, "run() of " + text, written, Archive::run, BAD_TEXT);
        }
    }

    // ---- Promise 15: why

    @Says(in = "Promise 15", text = "Reports on the latest call of run that returned no error code.")
    static void whyReportsOnTheLatestRun(Check check) {
        Archive x = Archive.withFiles(1, 0, 1);
        x.runOf("a0;a0;a1");
        x.runOf("a0;a2");
        check.due("why(0)", x.why(0), 1);
        check.due("why(1)", x.why(1), 3);
        check.due("why(2)", x.why(2), 1);
    }

    @Says(in = "Promise 15", text = "Reports on the latest call of run that returned no error code.")
    static void whyReportsOnNoRunWithABadText(Check check) {
        Archive x = Archive.withFiles(1, 0, 1);
        x.runOf("a0;a1");
        check.due("run()", x.runOf("a0;"), BAD_TEXT);
        check.due("why(0)", x.why(0), 1);
        x.runOf("a0");
        check.due("run()", x.runOf("a0;"), BAD_TEXT);
        check.due("why(0) after a run of all orders", x.why(0), NONE);
    }

    @Says(in = "Promise 15", text = WHY)
    static void whyOfTheFirstOrder(Check check) {
        Archive x = new Archive();
        x.runOf("a0;a0");
        check.due("why(0)", x.why(0), 0);
        check.due("why(1)", x.why(1), 0);
        check.due("why(2)", x.why(2), 1);
    }

    @Says(in = "Promise 15", text = WHY)
    static void whyOfTheLastOrderOfAFullText(Check check) {
        Archive x = Archive.withFiles(1, 0, 1);
        x.runOf("a0;".repeat(19) + "a19");
        check.due("why(0)", x.why(0), 19);
        check.due("why(1)", x.why(1), 57);
        check.due("why(2)", x.why(2), 1);
        x.clearText();
        check.due("why(1) after clearText()", x.why(1), 57);
    }

    @Says(in = "Promise 15", text = "2 for minus the error code")
    static void whyOfEachErrorCodeThatOrdersCanHave(Check check) {
        Archive x = Archive.withFiles(24, 0, 1);
        x.runOf("n0,1");
        check.due("why(2) of TOO_MANY", x.why(2), 4);
        x.runOf("l0,0");
        check.due("why(2) of NO_SUCH", x.why(2), 1);
        x.letPass(9999);
        x.runOf("d1");
        check.due("why(2) of NOT_POSSIBLE", x.why(2), 5);
    }

    @Says(in = "Promise 15", text = "Returns the number")
    static void theReportStaysWhateverIsDone(Check check) {
        Archive x = Archive.withFiles(1, 0, 1);
        x.runOf("n4,9;f0,1;f1,5");
        x.add(0, 1);
        x.pass(400);
        x.undo();
        x.clearText();
        check.due("why(0)", x.why(0), 2);
        check.due("why(1)", x.why(1), 10);
        check.due("why(2)", x.why(2), 1);
    }

    @Says(in = "Promise 15", text = "BAD_VALUE if what is out of range")
    static void whyRefusesOthers(Check check) {
        refusedBeyond(check, "why(x)", Cases::someFiles, (x, what) -> x.why(what), 0, 2, BAD_VALUE);
        refusedBeyond(check, "why(x) without a report", x -> { }, (x, what) -> x.why(what), 0, 2, BAD_VALUE);
    }

    @Says(in = "Promise 15", text = "NONE if there was no such call, or all its orders were executed.")
    static void whyIsNoneWithoutARun(Check check) {
        Archive x = new Archive();
        x.run();
        for (int what = 0; what <= 2; what++) {
            check.due("why(" + what + ")", x.why(what), NONE);
        }
    }

    @Says(in = "Promise 15", text = "or all its orders were executed.")
    static void whyIsNoneAfterARunOfAllOrders(Check check) {
        Archive x = new Archive();
        x.runOf("a0");
        x.runOf("n0,1;d90;a0");
        for (int what = 0; what <= 2; what++) {
            check.due("why(" + what + ")", x.why(what), NONE);
        }
    }

    // ---- Promise 16: undo

    @Says(in = "Promise 16", text = "Restores the latest state of the history and removes it from the history.")
    static void undoRestoresTheLatestState(Check check) {
        Archive x = new Archive();
        x.pass(3);
        x.pass(4);
        check.due("undo()", x.undo(), 1);
        check.due("now()", x.now(), 3);
        check.due("undo()", x.undo(), 0);
        check.due("now()", x.now(), 0);
        check.due("undo()", x.undo(), NONE);
        check.due("now()", x.now(), 0);
    }

    @Says(in = "Promise 16", text = "The text and the report of run do not change.")
    static void undoLeavesTheTextAndTheReport(Check check) {
        Archive x = new Archive();
        x.runOf("d9;a0");
        x.undo();
        check.due("why(1)", x.why(1), 3);
        check.due("run()", x.run(), 1);
        check.due("now()", x.now(), 9);
        check.due("clearText()", x.clearText(), 5);
    }

    @Says(in = "Promise 16", text = "Returns the number of states that are left in the history")
    static void undoAnswers3To0(Check check) {
        Archive x = new Archive();
        for (int pages = 1; pages <= 10; pages++) {
            x.add(0, pages);
        }
        for (int left = 3; left >= 0; left--) {
            check.due("undo()", x.undo(), left);
        }
    }

    @Says(in = "Promise 16", text = "NONE if the history is empty.")
    static void undoOfAnEmptyHistoryChangesNothing(Check check) {
        Steps empty = x -> {
            someFiles(x);
            x.usedUpHistory();
            x.add(0, 1);
            x.undo();
        };
        unchanged(check, "undo()", empty, x -> check.due("undo()", x.undo(), NONE));
    }

    @Says(in = "Promise 16", text = "NONE if the history is empty.")
    static void anEmptyHistoryIsFilledAgain(Check check) {
        Archive x = new Archive();
        for (int i = 0; i < 9; i++) {
            x.pass(1);
        }
        check.due("states", x.usedUpHistory(), 4);
        check.due("undo()", x.undo(), NONE);
        for (int i = 0; i < 3; i++) {
            x.pass(1);
        }
        check.due("states", x.usedUpHistory(), 3);
        check.due("now()", x.now(), 5);
    }
}
