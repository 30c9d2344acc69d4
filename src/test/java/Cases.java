/** What the tests of single sentences of the document share. */
abstract class Cases {
    static final int NO_SUCH = -1, BAD_VALUE = -2, BAD_TEXT = -3, TOO_MANY = -4, NOT_POSSIBLE = -5, NONE = -6;
    static final int LOYAL = 5, SHELF = 6;
    static final int LOWEST = Integer.MIN_VALUE, HIGHEST = Integer.MAX_VALUE;

    /** Calls that bring a new archive to where a test begins. */
    interface Steps {
        void on(Archive x);
    }

    interface Call {
        int on(Archive x);
    }

    interface NumberCall {
        int on(Archive x, int number);
    }

    static Archive made(Steps steps) {
        Archive x = new Archive();
        steps.on(x);
        return x;
    }

    /** The call is answered by the code, and an archive with it can't be told from one without it. */
    static void refused(Check check, String told, Steps before, Call call, int code) {
        unchanged(check, told, before, x -> check.due(told, call.on(x), code));
    }

    /** An archive with these calls can't be told from one without them. */
    static void unchanged(Check check, String told, Steps before, Steps calls) {
        for (int part = 0; part < Archive.PARTS; part++) {
            Archive with = made(before);
            calls.on(with);
            check.same("part " + part + " after " + told, with.seen(part), made(before).seen(part));
        }
    }

    /** The numbers next to the range and those at the ends of int are refused with the code. */
    static void refusedBeyond(Check check, String told, Steps before, NumberCall call, int low, int high, int code) {
        for (int number : new int[] {low - 1, high + 1, LOWEST, LOWEST + 1, HIGHEST - 1, HIGHEST}) {
            refused(check, told + " with " + number, before, x -> call.on(x, number), code);
        }
    }

    /** For a range without a highest number. */
    static void refusedBelow(Check check, String told, Steps before, NumberCall call, int low, int code) {
        for (int number : new int[] {low - 1, low - 5, LOWEST, LOWEST + 1}) {
            refused(check, told + " with " + number, before, x -> call.on(x, number), code);
        }
    }

    /** Each number of the range is answered on an archive of its own, and by no error code. */
    static void taken(Check check, String told, Steps before, NumberCall call, int low, int high) {
        for (int number = low; number <= high; number++) {
            int answer = call.on(made(before), number);
            check.holds(told + " takes " + number + ": " + answer, answer >= 0 || answer == NONE);
        }
    }

    /** The day 130: a burnt file, two stored ones with all that files can have, a report and four states. */
    static void someFiles(Archive x) {
        x.set(0, 30);
        x.add(0, 9);
        x.letPass(90);
        x.add(1, 20);
        x.add(2, 30);
        x.letPass(40);
        x.ask(2);
        x.seal(3, 2, 200);
        x.seal(4, 2, -1);
        x.refer(2, 1);
        x.refer(1, 1);
        x.reserve(2, 150);
        x.reserve(1, 9999);
        x.runOf("a0;l7,1;d5");
    }
}
