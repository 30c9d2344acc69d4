/** The document's "Orders as text". */
final class OrderCases extends Cases {
    private static final String ORDERS = "Orders as text";
    private static final String TEXT = "text  = order { \";\" order }";
    private static final String ORDER = "order = \"n\" kind \",\" pages | \"a\" file | \"s\" holder \",\" file | \"l\" "
        + "holder \",\" file | \"f\" file \",\" file | \"d\" days";
    private static final String NUMBERS = "A kind is a digit from 0 to 4, pages are a number from 1 to 50, a file a "
        + "number from 0 to 199, a holder a digit from 0 to 7, and days a number from 1 to 400; numbers have no leading "
        + "zeros.";
    private static final String FAULT = "The fault of the text is the index of the first character such that no text "
        + "begins with the characters up to and including it (however long such a text is).";
    private static final String UNFINISHED = "If there is no such character but the text is not complete (as the empty "
        + "text), the fault is the length of the text.";
    private static final String NINETEEN = "a0;".repeat(19);

    private OrderCases() {
    }

    private static void due(Check check, String text, int fault) {
        check.due("fault() of " + text, new Archive().faultOf(text), fault);
        int answer = new Archive().runOf(text);
        check.holds("run() of " + text + " is BAD_TEXT only if it has a fault: " + answer,
            (answer == BAD_TEXT) == (fault != NONE));
    }

    @Says(in = ORDERS, text = "There is a text of at most 60 characters (empty at first), which contains orders:")
    static void theTextIsEmptyAtFirst(Check check) {
        check.due("clearText()", new Archive().clearText(), 0);
        check.due("append('a')", new Archive().append('a'), 1);
    }

    @Says(in = ORDERS, text = "There is a text of at most 60 characters (empty at first), which contains orders:")
    static void theTextTakes60Characters(Check check) {
        Archive x = new Archive();
        for (int length = 1; length <= 60; length++) {
            check.due("append('a')", x.append('a'), length);
        }
        check.due("append('a') to 60", x.append('a'), TOO_MANY);
        check.due("clearText()", x.clearText(), 60);
    }

    @Says(in = ORDERS, text = TEXT)
    static void aTextIsOneOrderOrMore(Check check) {
        due(check, "a0", NONE);
        due(check, "a0;d1", NONE);
        due(check, "n0,1;a0;s0,0;l0,0;f0,0;d1", NONE);
        due(check, NINETEEN + "a0", NONE);
    }

    @Says(in = ORDERS, text = TEXT)
    static void betweenTwoOrdersIsOneSemicolon(Check check) {
        due(check, ";", 0);
        due(check, ";a0", 0);
        due(check, "a0;;a0", 3);
        due(check, "a0 a0", 2);
        due(check, "a0,a0", 2);
        due(check, "a0a0", 2);
        due(check, "a0; a0", 3);
    }

    @Says(in = ORDERS, text = ORDER)
    static void anOrderBeginsWithOneOfSixLetters(Check check) {
        for (int sign = 32; sign <= 126; sign++) {
            boolean isLetter = "naslfd".indexOf(sign) >= 0;
            due(check, "" + (char) sign, isLetter ? 1 : 0);
            due(check, "a0;" + (char) sign, isLetter ? 4 : 3);
        }
    }

    @Says(in = ORDERS, text = ORDER)
    static void eachOrderHasItsNumbers(Check check) {
        for (String order : new String[] {"n3,7", "s3,7", "l3,7", "f3,7"}) {
            due(check, order, NONE);
            due(check, order.substring(0, 2), 2);
            due(check, order.substring(0, 2) + ";", 2);
            due(check, order + ",1", 4);
        }
        for (String order : new String[] {"a7", "d7"}) {
            due(check, order, NONE);
            due(check, order + ",1", 2);
        }
    }

    @Says(in = ORDERS, text = ORDER)
    static void noOtherCharacterStandsInAnOrder(Check check) {
        for (int sign = 32; sign <= 126; sign++) {
            boolean isDigit = sign >= '0' && sign <= '9';
            if (!isDigit) {
                due(check, "f" + (char) sign, 1);
                due(check, "f1,1" + (char) sign, sign == ';' ? 5 : 4);
                due(check, "f1" + (char) sign, sign == ',' ? 3 : 2);
                due(check, "f1," + (char) sign, 3);
            }
        }
    }

    @Says(in = ORDERS, text = "They stand for add, ask, seal (without a last day), lift, refer and pass.")
    static void ordersStandForTheirActions(Check check) {
        Archive x = new Archive();
        check.due("run()", x.runOf("n4,50;n1,2;a1;s7,0;s6,0;l6,0;f0,1;d400"), 8);
        int[] first = {4, 50, 0, NONE, 0, 1, 1440, 128, 0, 0};
        int[] second = {1, 2, 0, 0, 1, NONE, 180, 0, 1, 0};
        for (int what = 0; what < 10; what++) {
            check.due("file(0, " + what + ")", x.file(0, what), first[what]);
            check.due("file(1, " + what + ")", x.file(1, what), second[what]);
        }
        check.due("now()", x.now(), 400);
    }

    @Says(in = ORDERS, text = "They stand for add, ask, seal (without a last day), lift, refer and pass.")
    static void theOrderToSealPutsASealWithoutALastDay(Check check) {
        Archive x = Archive.withFiles(1, 0, 1);
        x.seal(5, 0, 8);
        check.due("run()", x.runOf("s5,0"), 1);
        check.due("sealOf(5, 0)", x.sealOf(5, 0), 10000);
    }

    // ---- numbers

    @Says(in = ORDERS, text = NUMBERS)
    static void aKindIsADigitFrom0To4(Check check) {
        for (int kind = 0; kind <= 9; kind++) {
            due(check, "n" + kind + ",1", kind <= 4 ? NONE : 1);
        }
        due(check, "n10,1", 2);
        due(check, "n00,1", 2);
    }

    @Says(in = ORDERS, text = NUMBERS)
    static void pagesAreANumberFrom1To50(Check check) {
        for (int pages = 1; pages <= 50; pages++) {
            due(check, "n0," + pages, NONE);
        }
        due(check, "n0,0", 3);
        for (int pages = 51; pages <= 99; pages++) {
            due(check, "n0," + pages, 4);
        }
        due(check, "n0,100", 5);
        due(check, "n0,500", 5);
        due(check, "n0,510", 4);
    }

    @Says(in = ORDERS, text = NUMBERS)
    static void aFileIsANumberFrom0To199(Check check) {
        for (int file = 0; file <= 199; file++) {
            due(check, "a" + file, NONE);
            due(check, "f" + file + "," + file, NONE);
            due(check, "s0," + file, NONE);
            due(check, "l0," + file, NONE);
        }
        for (int file = 200; file <= 999; file++) {
            due(check, "a" + file, 3);
            due(check, "f" + file + ",1", 3);
            due(check, "f1," + file, 5);
            due(check, "s0," + file, 5);
            due(check, "l0," + file, 5);
        }
        due(check, "a1000", 4);
        due(check, "a1990", 4);
    }

    @Says(in = ORDERS, text = NUMBERS)
    static void aHolderIsADigitFrom0To7(Check check) {
        for (int holder = 0; holder <= 9; holder++) {
            due(check, "s" + holder + ",1", holder <= 7 ? NONE : 1);
            due(check, "l" + holder + ",1", holder <= 7 ? NONE : 1);
        }
        due(check, "s10,1", 2);
        due(check, "l77,1", 2);
        due(check, "s00,1", 2);
    }

    @Says(in = ORDERS, text = NUMBERS)
    static void daysAreANumberFrom1To400(Check check) {
        for (int days = 1; days <= 400; days++) {
            due(check, "d" + days, NONE);
        }
        due(check, "d0", 1);
        for (int days = 401; days <= 999; days++) {
            due(check, "d" + days, 3);
        }
        due(check, "d1000", 4);
        due(check, "d4000", 4);
    }

    @Says(in = ORDERS, text = NUMBERS)
    static void numbersHaveNoLeadingZeros(Check check) {
        due(check, "n0,01", 3);
        due(check, "a00", 2);
        due(check, "a07", 2);
        due(check, "s0,00", 4);
        due(check, "l0,01", 4);
        due(check, "f00,1", 2);
        due(check, "f1,01", 4);
        due(check, "d01", 1);
        due(check, "d00", 1);
    }

    @Says(in = ORDERS, text = NUMBERS)
    static void aNumberBeyondTheEndsOfIntIsNoNumber(Check check) {
        for (String number : new String[] {"2147483647", "2147483648", "4294967297", "18446744073709551617",
            "99999999999999999999999999999999999999999999999999999999"}) {
            due(check, "d" + number, number.startsWith("2") || number.startsWith("1") ? 4 : 3);
            due(check, "a" + number, number.startsWith("1") ? 4 : 3);
            due(check, "n0," + number, number.startsWith("9") ? 4 : 5);
        }
    }

    // ---- faults

    @Says(in = ORDERS, text = FAULT)
    static void theFaultIsTheFirstCharacterThatCannotStandThere(Check check) {
        due(check, "x", 0);
        due(check, "xn0,1", 0);
        due(check, "n0,1;x;y", 5);
        due(check, "nx", 1);
        due(check, "a0;s8,1", 4);
        due(check, "a-1", 1);
        due(check, "d+1", 1);
        due(check, "A0", 0);
        due(check, "n0;1", 2);
        due(check, "d1.", 2);
    }

    @Says(in = ORDERS, text = FAULT)
    static void aFaultCanBeTheLastOf60Characters(Check check) {
        due(check, NINETEEN + "aa", 58);
        due(check, "a10;" + NINETEEN.substring(3) + "ax", 59);
        due(check, "a10;" + NINETEEN.substring(3) + "x", 58);
    }

    @Says(in = ORDERS, text = FAULT)
    static void aTextThatCouldGoOnBeyond60CharactersHasNoSuchCharacter(Check check) {
        due(check, NINETEEN + "a0;", 60);
        due(check, "a10;" + NINETEEN.substring(3) + "f", 59);
        due(check, "a100;" + NINETEEN.substring(3) + "f", 60);
        due(check, "a10;" + NINETEEN.substring(3) + "f0", 60);
        due(check, NINETEEN + "f0,", 60);
        due(check, NINETEEN + "n0,", 60);
        due(check, NINETEEN + "f19", 60);
    }

    @Says(in = ORDERS, text = FAULT)
    static void aNumberThatCouldGoOnIsNoFault(Check check) {
        due(check, "f1", 2);
        due(check, "f19", 3);
        due(check, "f199", 4);
        due(check, "n0,5", NONE);
        due(check, "d40", NONE);
        due(check, "a2", NONE);
        due(check, NINETEEN + "d10", NONE);
        due(check, NINETEEN + "a19", NONE);
    }

    @Says(in = ORDERS, text = UNFINISHED)
    static void theFaultOfTheEmptyTextIs0(Check check) {
        due(check, "", 0);
    }

    @Says(in = ORDERS, text = UNFINISHED)
    static void theFaultOfATextThatIsNotCompleteIsItsLength(Check check) {
        for (String whole : new String[] {"n0,5", "a1", "s7,9", "l0,9", "f1,2", "d4", "f199,199"}) {
            for (int length = 1; length < whole.indexOf(',') + 2 || length < 2; length++) {
                due(check, whole.substring(0, length), length);
                due(check, "a0;" + whole.substring(0, length), 3 + length);
            }
            due(check, whole + ";", whole.length() + 1);
        }
    }
}
