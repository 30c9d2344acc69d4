/** Each promise of the document, in its order: usual calls, the edges it names, and wrong arguments. */
public final class PromiseTest {
    private static final int NO_SUCH = -1, BAD_VALUE = -2, BAD_TEXT = -3, TOO_MANY = -4, NOT_POSSIBLE = -5, NONE = -6;
    private static final int[] EXTREMES = {Integer.MIN_VALUE, Integer.MIN_VALUE + 1, Integer.MAX_VALUE};

    private static final Check check = new Check();

    private PromiseTest() {
    }

    public static void main(String[] args) {
        newObject();
        addRanges();
        addRoom();
        ask();
        seal();
        lift();
        refer();
        reserve();
        cancel();
        pass();
        burningReasons();
        burningOrder();
        set();
        append();
        clearText();
        faultOfBeginnings();
        faultOfNumbers();
        run();
        runErrors();
        why();
        undo();
        undoDepth();
        undoAfterReuse();
        undoBringsBackAll();
        now();
        count();
        fileAt();
        file();
        sealOf();
        trace();
        reservation();
        setting();
        meanAge();
        stays();
        keeper();
        burntIn();
        ifPassed();
        errorsChangeNothing();
        check.end();
    }

    private static void begin(String name) {
        check.begin(name);
    }

    private static void due(String call, double got, double want) {
        check.due(call, got, want);
    }

    private static void dueFault(String text, int want) {
        Archive x = new Archive();
        x.write(text);
        due("fault of " + text, x.fault(), want);
        due("run of " + text + " is BAD_TEXT", x.run() == BAD_TEXT ? 1 : 0, want == NONE ? 0 : 1);
    }

    /** All that can be seen of the state, as one text. */
    private static String seen(Archive x) {
        StringBuilder all = new StringBuilder().append(x.now()).append(' ').append(x.meanAge());
        for (int what = 0; what < 10; what++) {
            all.append(" c").append(x.count(what));
        }
        for (int place = 0; place < x.count(0); place++) {
            int number = x.fileAt(place);
            all.append(" file ").append(number);
            for (int what = 0; what < 10; what++) {
                all.append(' ').append(x.file(number, what));
            }
            for (int holder = 0; holder < 8; holder++) {
                all.append(" h").append(x.sealOf(holder, number));
            }
            all.append(' ').append(x.stays(number)).append(' ').append(x.keeper(number));
            all.append(' ').append(x.burntIn(number));
        }
        for (int ago = 0; ago < x.count(9); ago++) {
            for (int what = 0; what < 5; what++) {
                all.append(" t").append(x.trace(ago, what));
            }
        }
        for (int place = 0; place < x.count(8); place++) {
            all.append(" r").append(x.reservation(place, 0)).append(':').append(x.reservation(place, 1));
        }
        for (int setting = 0; setting < 7; setting++) {
            all.append(" s").append(x.setting(setting));
        }
        return all.toString();
    }

    private static void newObject() {
        begin("1 new object");
        Archive x = new Archive();
        due("now", x.now(), 0);
        for (int what = 0; what < 10; what++) {
            due("count(" + what + ")", x.count(what), 0);
        }
        due("fileAt(0)", x.fileAt(0), NONE);
        due("reservation(0, 0)", x.reservation(0, 0), NONE);
        due("trace(0, 0)", x.trace(0, 0), NONE);
        due("fault", x.fault(), 0);
        due("run", x.run(), BAD_TEXT);
        due("why", x.why(0), NONE);
        due("clearText", x.clearText(), 0);
        due("undo", x.undo(), NONE);
        int[] firstValues = {90, 180, 360, 720, 1440, 3, 300};
        for (int setting = 0; setting < 7; setting++) {
            due("setting(" + setting + ")", x.setting(setting), firstValues[setting]);
        }
        Archive other = new Archive();
        other.add(0, 1);
        other.append('a');
        due("files of another object", x.count(0), 0);
        due("text of another object", x.clearText(), 0);
    }

    private static void addRanges() {
        begin("2 add");
        Archive x = new Archive();
        due("add(0, 1)", x.add(0, 1), 0);
        due("add(4, 50)", x.add(4, 50), 1);
        due("add(-1, 1)", x.add(-1, 1), BAD_VALUE);
        due("add(5, 1)", x.add(5, 1), BAD_VALUE);
        due("add(0, 0)", x.add(0, 0), BAD_VALUE);
        due("add(0, 51)", x.add(0, 51), BAD_VALUE);
        for (int extreme : EXTREMES) {
            due("add(extreme, 1)", x.add(extreme, 1), BAD_VALUE);
            due("add(0, extreme)", x.add(0, extreme), BAD_VALUE);
        }
        x.pass(7);
        due("the next number", x.add(3, 9), 2);
        due("its kind", x.file(2, 0), 3);
        due("its pages", x.file(2, 1), 9);
        due("its day", x.file(2, 2), 7);
        due("its latest asking", x.file(2, 3), NONE);
        due("its askings", x.file(2, 4), 0);
        due("its reference", x.file(2, 5), NONE);
        due("its seals", x.file(2, 7), 0);
    }

    private static void addRoom() {
        begin("2 add, room");
        Archive x = Archive.withFiles(23, 0, 1);
        due("the 24th file", x.add(0, 1), 23);
        due("the 25th file", x.add(0, 1), TOO_MANY);
        due("a bad one then", x.add(0, 0), BAD_VALUE);
        x.pass(90);
        due("after the burning", x.add(0, 1), 24);
        due("no reference is left over", x.file(24, 5), NONE);

        Archive shelf = Archive.withFiles(5, 0, 50);
        due("add(0, 49)", shelf.add(0, 49), 5);
        due("two pages too many", shelf.add(0, 2), TOO_MANY);
        due("just as many as SHELF", shelf.add(0, 1), 6);
        due("one page too many", shelf.add(0, 1), TOO_MANY);
        shelf.set(ForgettingArchive.SHELF, 50);
        due("files of a smaller shelf", shelf.count(0), 7);

        Archive many = new Archive();
        for (int i = 0; i < 200; i++) {
            due("file " + i, many.add(0, 1), i);
            if (many.count(0) == 24) {
                many.pass(90);
            }
        }
        due("the 201st file", many.add(0, 1), TOO_MANY);
        due("files that came", many.count(1), 200);
        many.pass(90);
        due("the 201st file after a burning", many.add(0, 1), TOO_MANY);
        due("the latest file", many.ask(199), NONE);
        due("a later file", many.ask(200), NO_SUCH);
    }

    private static void ask() {
        begin("3 ask");
        Archive x = Archive.withFiles(2, 0, 1);
        x.pass(50);
        due("ask(0)", x.ask(0), 1);
        due("ask(0) again", x.ask(0), 2);
        due("the day of it", x.file(0, 3), 50);
        due("the other one's", x.file(1, 3), NONE);
        due("the young file is due", x.file(0, 6), 140);
        x.ask(0);
        due("a loyal file is due", x.file(0, 6), 230);
        x.pass(40);
        due("a burnt file", x.ask(1), NONE);
        due("regrets", x.count(6), 1);
        due("askings", x.count(5), 3);
        due("a burnt file's asking is an action", x.undo(), 3);
        due("regrets after undo", x.count(6), 0);
        due("a file that never came", x.ask(2), NO_SUCH);
        due("ask(-1)", x.ask(-1), NO_SUCH);
        for (int extreme : EXTREMES) {
            due("ask(extreme)", x.ask(extreme), NO_SUCH);
        }
        x.add(0, 1);
        due("after it came", x.ask(2), 1);
    }

    private static void seal() {
        begin("4 seal");
        Archive x = Archive.withFiles(1, 0, 1);
        due("seal(0, 0, 10)", x.seal(0, 0, 10), 1);
        due("seal(7, 0, -1)", x.seal(7, 0, -1), 2);
        due("replaced by one without an end", x.seal(0, 0, -1), 2);
        due("its end", x.sealOf(0, 0), 10000);
        due("replaced by one with an end", x.seal(0, 0, 5), 2);
        due("its end", x.sealOf(0, 0), 5);
        x.pass(5);
        due("on its last day", x.seal(1, 0, 5), 3);
        x.pass(1);
        due("only those that hold are counted", x.seal(2, 0, 6), 2);
        due("seal on a day before now", x.seal(3, 0, 5), BAD_VALUE);
        due("on the last day of all", x.seal(3, 0, 9999), 3);
        due("after the last day of all", x.seal(3, 0, 10000), BAD_VALUE);
        due("seal(3, 0, -2)", x.seal(3, 0, -2), BAD_VALUE);
        due("seal(8, 0, -1)", x.seal(8, 0, -1), NO_SUCH);
        due("seal(-1, 0, -1)", x.seal(-1, 0, -1), NO_SUCH);
        due("seal(0, 1, -1)", x.seal(0, 1, -1), NO_SUCH);
        due("seal(0, -1, -1)", x.seal(0, -1, -1), NO_SUCH);
        due("no holder, bad day", x.seal(8, 0, -2), NO_SUCH);
        due("no file, bad day", x.seal(0, 1, -2), NO_SUCH);
        for (int extreme : EXTREMES) {
            due("seal(extreme, 0, -1)", x.seal(extreme, 0, -1), NO_SUCH);
            due("seal(0, extreme, -1)", x.seal(0, extreme, -1), NO_SUCH);
            due("seal(0, 0, extreme)", x.seal(0, 0, extreme), BAD_VALUE);
        }
        x.letPass(9999 - 6);
        due("on the day 9999", x.seal(4, 0, 9999), 3);
        due("before it", x.seal(4, 0, 9998), BAD_VALUE);
    }

    private static void lift() {
        begin("5 lift");
        Archive x = Archive.withFiles(2, 4, 1);
        x.seal(0, 0, 3);
        x.seal(1, 0, -1);
        x.seal(2, 0, 20);
        due("lift(1, 0)", x.lift(1, 0), 2);
        due("lifted once already", x.lift(1, 0), NO_SUCH);
        due("of another file", x.lift(0, 1), NO_SUCH);
        x.pass(4);
        due("a seal that does not hold", x.lift(0, 0), 1);
        due("it is gone", x.sealOf(0, 0), NONE);
        due("the last seal", x.lift(2, 0), 0);
        due("lift(8, 0)", x.lift(8, 0), NO_SUCH);
        due("lift(-1, 0)", x.lift(-1, 0), NO_SUCH);
        due("lift(0, 2)", x.lift(0, 2), NO_SUCH);
        due("lift(0, -1)", x.lift(0, -1), NO_SUCH);
        for (int extreme : EXTREMES) {
            due("lift(extreme, 0)", x.lift(extreme, 0), NO_SUCH);
            due("lift(0, extreme)", x.lift(0, extreme), NO_SUCH);
        }
    }

    private static void refer() {
        begin("6 refer");
        Archive x = Archive.withFiles(3, 0, 1);
        due("refer(0, 1)", x.refer(0, 1), 1);
        due("refer(2, 1)", x.refer(2, 1), 2);
        due("to itself", x.refer(1, 1), 3);
        due("once more the same", x.refer(1, 1), 3);
        due("in place of the other one", x.refer(0, 2), 1);
        due("files that refer to 1", x.file(1, 8), 2);
        due("the reference", x.file(0, 5), 2);
        due("refer(3, 0)", x.refer(3, 0), NO_SUCH);
        due("refer(0, 3)", x.refer(0, 3), NO_SUCH);
        due("refer(-1, 0)", x.refer(-1, 0), NO_SUCH);
        due("refer(0, -1)", x.refer(0, -1), NO_SUCH);
        due("refer(0, NONE)", x.refer(0, NONE), NO_SUCH);
        for (int extreme : EXTREMES) {
            due("refer(extreme, 0)", x.refer(extreme, 0), NO_SUCH);
            due("refer(0, extreme)", x.refer(0, extreme), NO_SUCH);
        }
        x.pass(1);
        x.ask(2);
        x.pass(89);
        due("a burnt target", x.refer(2, 0), NO_SUCH);
        due("a burnt file", x.refer(0, 2), NO_SUCH);
        due("burnt files don't refer", x.file(2, 8), 0);
    }

    private static void reserve() {
        begin("7 reserve");
        Archive x = Archive.withFiles(2, 0, 1);
        x.pass(3);
        due("on the day of now", x.reserve(0, 3), BAD_VALUE);
        due("on the next day", x.reserve(0, 4), 1);
        due("the same once more", x.reserve(0, 4), NOT_POSSIBLE);
        due("the same day, another file", x.reserve(1, 4), 2);
        due("the same file, another day", x.reserve(0, 5), 3);
        due("on the last day of all", x.reserve(0, 9999), 4);
        due("after it", x.reserve(0, 10000), BAD_VALUE);
        due("on no day", x.reserve(0, -1), BAD_VALUE);
        due("no file", x.reserve(2, 4), NO_SUCH);
        due("no file, bad day", x.reserve(2, 3), NO_SUCH);
        for (int extreme : EXTREMES) {
            due("reserve(extreme, 9)", x.reserve(extreme, 9), NO_SUCH);
            due("reserve(0, extreme)", x.reserve(0, extreme), BAD_VALUE);
        }
        for (int day = 10; day < 14; day++) {
            due("reserve(1, " + day + ")", x.reserve(1, day), day - 5);
        }
        due("a ninth one", x.reserve(1, 14), TOO_MANY);
        due("a ninth one that is there", x.reserve(1, 13), NOT_POSSIBLE);
        due("a ninth one, bad day", x.reserve(1, 3), BAD_VALUE);
        due("a ninth one, no file", x.reserve(9, 14), NO_SUCH);
        x.pass(1);
        due("both of the day are gone", x.count(8), 6);
        due("they were asked for", x.count(5), 2);
        due("on that day", x.file(1, 3), 4);
        due("there is room again", x.reserve(1, 14), 7);
    }

    private static void cancel() {
        begin("8 cancel");
        Archive x = Archive.withFiles(2, 0, 1);
        x.reserve(0, 4);
        x.reserve(1, 4);
        x.reserve(0, 6);
        due("cancel(0, 5)", x.cancel(0, 5), NO_SUCH);
        due("cancel(1, 6)", x.cancel(1, 6), NO_SUCH);
        due("cancel(2, 4)", x.cancel(2, 4), NO_SUCH);
        due("cancel(0, 4)", x.cancel(0, 4), 2);
        due("cancel(0, 4) again", x.cancel(0, 4), NO_SUCH);
        due("the first one left", x.reservation(0, 0), 1);
        due("the second one left", x.reservation(1, 1), 6);
        due("no third one", x.reservation(2, 0), NONE);
        x.pass(4);
        due("a day that came", x.cancel(1, 4), NO_SUCH);
        due("the last one", x.cancel(0, 6), 0);
        for (int extreme : EXTREMES) {
            due("cancel(extreme, 4)", x.cancel(extreme, 4), NO_SUCH);
            due("cancel(0, extreme)", x.cancel(0, extreme), NO_SUCH);
        }
    }

    private static void pass() {
        begin("9 pass");
        Archive x = Archive.withFiles(3, 0, 2);
        due("pass(0)", x.pass(0), BAD_VALUE);
        due("pass(-1)", x.pass(-1), BAD_VALUE);
        due("pass(401)", x.pass(401), BAD_VALUE);
        for (int extreme : EXTREMES) {
            due("pass(extreme)", x.pass(extreme), BAD_VALUE);
        }
        due("the day before", x.pass(89), 0);
        due("no burning yet", x.count(7), 0);
        due("the burning", x.pass(1), 3);
        due("burnings", x.count(7), 1);
        due("pass(400)", x.pass(400), 0);
        due("burnings with nothing to burn count", x.count(7), 5);
        x.letPass(9999 - 490);
        due("now", x.now(), 9999);
        due("one day more", x.pass(1), NOT_POSSIBLE);
        due("too many days more", x.pass(401), BAD_VALUE);

        Archive late = new Archive();
        late.letPass(9600);
        due("one too many", late.pass(400), NOT_POSSIBLE);
        due("now stays", late.now(), 9600);
        due("just as many", late.pass(399), 0);
        due("now", late.now(), 9999);
    }

    private static void burningReasons() {
        begin("9 pass, who stays");
        // Due on the day of the burning: burnt. Due a day later: stays.
        Archive due = Archive.withFiles(1, 0, 1);
        due.pass(1);
        due.add(0, 1);
        due("due on the day", due.pass(89), 1);
        due("due a day later", due.fileAt(0), 1);

        Archive seals = Archive.withFiles(3, 0, 1);
        seals.seal(0, 0, 89);
        seals.seal(0, 1, 90);
        seals.seal(0, 2, -1);
        due("sealed to the day before", seals.pass(90), 1);
        due("sealed to the day", seals.fileAt(0), 1);
        due("at the next burning", seals.pass(90), 1);
        due("sealed for ever", seals.fileAt(0), 2);

        Archive reserved = Archive.withFiles(2, 0, 1);
        reserved.reserve(0, 91);
        due("reserved for the next day", reserved.pass(90), 1);
        due("the reservation is kept", reserved.count(8), 1);

        // 3 -> 2 -> 1 -> 0 and a circle of 4 and 5: the chain stays by its head.
        Archive chain = Archive.withFiles(6, 0, 1);
        chain.refer(3, 2);
        chain.refer(2, 1);
        chain.refer(1, 0);
        chain.refer(4, 5);
        chain.refer(5, 4);
        chain.seal(6, 3, -1);
        due("the circle is burnt", chain.pass(90), 2);
        due("the chain stays", chain.count(0), 4);
        chain.lift(6, 3);
        due("without its head's seal it is burnt", chain.pass(90), 4);

        Archive self = Archive.withFiles(1, 0, 1);
        self.refer(0, 0);
        due("a file that refers to itself", self.pass(90), 1);
    }

    private static void burningOrder() {
        begin("9 pass, order of a day");
        // The reservation of the day of the burning is treated first, and makes its file young.
        Archive x = Archive.withFiles(2, 0, 1);
        x.reserve(1, 90);
        due("asked before the burning", x.pass(90), 1);
        due("it was asked on that day", x.file(1, 3), 90);
        due("no reservation is left", x.count(8), 0);

        Archive traces = Archive.withFiles(14, 0, 3);
        traces.pass(1);
        traces.ask(13);
        due("all but one", traces.pass(89), 13);
        due("traces", traces.count(9), 12);
        due("the latest trace", traces.trace(0, 0), 12);
        due("the oldest trace", traces.trace(11, 0), 1);
        traces.pass(90);
        due("one trace more", traces.trace(0, 0), 13);
        due("one trace less", traces.trace(11, 0), 2);
        due("burnt", traces.count(3), 14);

        // Kind 1 is due on the day 180, so a middle file is burnt and the others keep their order.
        Archive gap = new Archive();
        gap.add(1, 1);
        gap.add(0, 2);
        gap.add(1, 4);
        gap.pass(90);
        due("the first one left", gap.fileAt(0), 0);
        due("the second one left", gap.fileAt(1), 2);
        due("its pages", gap.file(2, 1), 4);
        due("the next one", gap.add(2, 8), 3);
        due("the third one then", gap.fileAt(2), 3);
    }

    private static void set() {
        begin("10 set");
        Archive x = Archive.withFiles(1, 0, 1);
        int[] lowest = {30, 30, 30, 30, 30, 1, 50};
        int[] highest = {2000, 2000, 2000, 2000, 2000, 20, 600};
        int[] first = {90, 180, 360, 720, 1440, 3, 300};
        for (int setting = 0; setting < 7; setting++) {
            due("below " + setting, x.set(setting, lowest[setting] - 1), BAD_VALUE);
            due("above " + setting, x.set(setting, highest[setting] + 1), BAD_VALUE);
            due("lowest of " + setting, x.set(setting, lowest[setting]), first[setting]);
            due("highest of " + setting, x.set(setting, highest[setting]), lowest[setting]);
            due("value of " + setting, x.setting(setting), highest[setting]);
        }
        due("set(-1, 90)", x.set(-1, 90), NO_SUCH);
        due("set(7, 90)", x.set(7, 90), NO_SUCH);
        due("set(7, 0)", x.set(7, 0), NO_SUCH);
        for (int extreme : EXTREMES) {
            due("set(extreme, 90)", x.set(extreme, 90), NO_SUCH);
            due("set(0, extreme)", x.set(0, extreme), BAD_VALUE);
        }
        x.set(0, 100);
        due("a file is due by the new period", x.file(0, 6), 100);
        x.ask(0);
        x.set(5, 1);
        due("and by the new loyalty", x.file(0, 6), 200);
    }

    private static void append() {
        begin("11 append");
        Archive x = new Archive();
        due("append(31)", x.append(31), BAD_VALUE);
        due("append(127)", x.append(127), BAD_VALUE);
        for (int extreme : EXTREMES) {
            due("append(extreme)", x.append(extreme), BAD_VALUE);
        }
        due("append(65536 + 'a')", x.append(65536 + 'a'), BAD_VALUE);
        due("append(32)", x.append(32), 1);
        due("append(126)", x.append(126), 2);
        for (int length = 3; length <= 60; length++) {
            due("the length", x.append('a'), length);
        }
        due("the 61st", x.append('a'), TOO_MANY);
        due("a bad 61st", x.append(31), BAD_VALUE);
        due("it is no action", x.undo(), NONE);
        due("the length stays", x.clearText(), 60);
    }

    private static void clearText() {
        begin("12 clearText");
        Archive x = new Archive();
        due("of the empty text", x.clearText(), 0);
        x.write("a0;a0");
        due("of five characters", x.clearText(), 5);
        due("again", x.clearText(), 0);
        due("the fault then", x.fault(), 0);
        due("the next character", x.append('d'), 1);
        due("the fault then", x.fault(), 1);
        due("it is no action", x.undo(), NONE);
    }

    private static void faultOfBeginnings() {
        begin("13 fault");
        dueFault("", 0);
        for (String fine : new String[] {"n0,1", "n4,50", "a0", "a199", "s0,0", "s7,199", "l7,0", "l0,100",
            "f0,0", "f199,199", "d1", "d400", "a0;a1", "d90;n0,5;s1,2;l1,2;f3,4;a5"}) {
            dueFault(fine, NONE);
        }
        for (String unfinished : new String[] {"n", "n0", "n0,", "a", "s", "s7", "s7,", "l", "l1", "l1,", "f", "f1",
            "f19", "f199", "f199,", "d", "a0;", "a0;n0", "a0;a0;a0;d"}) {
            dueFault(unfinished, unfinished.length());
        }
        for (String bad : new String[] {"x", " ", ";", "N", "0", ",", "A0", "b1", "t"}) {
            dueFault(bad, 0);
        }
        dueFault("n,", 1);
        dueFault("n0;", 2);
        dueFault("n0 ,1", 2);
        dueFault("n00", 2);
        dueFault("a;", 1);
        dueFault("a ", 1);
        dueFault("a0,", 2);
        dueFault("a0 ", 2);
        dueFault("a0;;", 3);
        dueFault("a0; a0", 3);
        dueFault("a0;x", 3);
        dueFault("d5,5", 2);
        dueFault("n0,5,", 4);
        dueFault("f1;1", 2);
        dueFault("s1,1,1", 4);
        dueFault("a0a0", 2);
        dueFault("a-1", 1);
        dueFault("d+1", 1);
        // 60 characters: a text could go on after them, so that only its length is the fault.
        dueFault("a0;a0;a0;a0;a0;a0;a0;a0;a0;a0;a0;a0;a0;a0;a0;a0;a0;a0;a0;a0;", 60);
        dueFault("a10;a0;a0;a0;a0;a0;a0;a0;a0;a0;a0;a0;a0;a0;a0;a0;a0;a0;a0;a0", NONE);
        dueFault("a10;a0;a0;a0;a0;a0;a0;a0;a0;a0;a0;a0;a0;a0;a0;a0;a0;a0;a0;aa", 59);
        dueFault("a100;a0;a0;a0;a0;a0;a0;a0;a0;a0;a0;a0;a0;a0;a0;a0;a0;a0;a0;f", 60);
    }

    private static void faultOfNumbers() {
        begin("13 fault, numbers");
        dueFault("n5", 1);
        dueFault("n0,0", 3);
        dueFault("n0,51", 4);
        dueFault("n0,60", 4);
        dueFault("n0,500", 5);
        dueFault("n0,10", NONE);
        dueFault("n0,05", 3);
        dueFault("s8", 1);
        dueFault("s10", 2);
        dueFault("l8,1", 1);
        dueFault("a00", 2);
        dueFault("a01", 2);
        dueFault("a200", 3);
        dueFault("a199", NONE);
        dueFault("a1990", 4);
        dueFault("a99", NONE);
        dueFault("a990", 3);
        dueFault("a20", NONE);
        dueFault("f200,1", 3);
        dueFault("f1,200", 5);
        dueFault("f01,1", 2);
        dueFault("s0,200", 5);
        dueFault("l0,00", 4);
        dueFault("d0", 1);
        dueFault("d01", 1);
        dueFault("d401", 3);
        dueFault("d399", NONE);
        dueFault("d410", 3);
        dueFault("d500", 3);
        dueFault("d4000", 4);
        dueFault("d99999999999999", 3);
        for (int number = 0; number < 1000; number++) {
            int digits = number < 10 ? 1 : number < 100 ? 2 : 3;
            dueFault("a" + number, number < 200 ? NONE : digits);
            dueFault("d" + number, number == 0 ? 1 : number <= 400 ? NONE : digits);
            dueFault("n0," + number, faultOfPages(number));
        }
    }

    /** The fault of "n0," and a number below 1000. */
    private static int faultOfPages(int number) {
        if (number == 0) {
            return 3;
        }
        if (number <= 50) {
            return NONE;
        }
        boolean beginsWell = number >= 100 && number / 10 <= 50;
        return beginsWell ? 5 : 4;
    }

    private static void run() {
        begin("14 run");
        Archive x = new Archive();
        x.write("n1,7;n0,9;s2,0;f0,1;a1;d90");
        due("run", x.run(), 6);
        due("the kind", x.file(0, 0), 1);
        due("the pages", x.file(1, 1), 9);
        due("the seal has no end", x.sealOf(2, 0), 10000);
        due("the reference", x.file(0, 5), 1);
        due("the asking", x.file(1, 4), 1);
        due("the day", x.now(), 90);
        due("the burning", x.count(7), 1);
        due("the text does not change", x.fault(), NONE);
        due("one state is recorded", x.undo(), 0);
        due("all is as before", x.count(1), 0);
        due("it can be run again", x.run(), 6);
        x.write("l2,0");
        due("lift", x.run(), 1);
        due("the seal is gone", x.sealOf(2, 0), NONE);
        x.write("a199");
        due("no order executed", x.run(), 0);
        due("that is an action, too", x.usedUpHistory(), 3);
        x.write("a0;a");
        due("a text with a fault", x.run(), BAD_TEXT);
        due("it is no action", x.undo(), NONE);
    }

    private static void runErrors() {
        begin("14 run, up to an error");
        Archive x = new Archive();
        x.write("n0,1;d90;a0;n0,2;a9;n0,3");
        due("an asking for a burnt file is executed", x.run(), 4);
        due("what comes after is not", x.count(1), 2);
        due("regrets", x.count(6), 1);
        due("the text stays", x.clearText(), 24);

        Archive late = new Archive();
        late.letPass(9600);
        late.write("d399;d1");
        due("a day above 9999", late.run(), 1);
        due("its error", late.why(2), -NOT_POSSIBLE);

        Archive full = new Archive();
        full.write("n0,50;n0,50;n0,50;n0,50;n0,50;n0,49;n0,1;n0,1;n0,1");
        due("a full shelf", full.run(), 7);
        due("its error", full.why(2), -TOO_MANY);

        Archive most = Archive.withFiles(1, 0, 1);
        most.write("a0;a0;a0;a0;a0;a0;a0;a0;a0;a0;a0;a0;a0;a0;a0;a0;a0;a0;a0;a0");
        due("twenty orders", most.run(), 20);
        due("askings", most.count(5), 20);
        for (String order : new String[] {"s0,9", "l0,0", "l0,9", "f0,9", "f9,0"}) {
            most.write(order);
            due(order, most.run(), 0);
            due("the error of " + order, most.why(2), -NO_SUCH);
        }
    }

    private static void why() {
        begin("15 why");
        Archive x = Archive.withFiles(1, 0, 1);
        due("before any run", x.why(1), NONE);
        due("why(-1)", x.why(-1), BAD_VALUE);
        due("why(3)", x.why(3), BAD_VALUE);
        for (int extreme : EXTREMES) {
            due("why(extreme)", x.why(extreme), BAD_VALUE);
        }
        x.write("a9");
        x.run();
        due("the first order", x.why(0), 0);
        due("its character", x.why(1), 0);
        due("its error", x.why(2), 1);
        x.write("a0;s1,0;f0,77;d1");
        x.run();
        due("the third order", x.why(0), 2);
        due("its character", x.why(1), 8);
        due("its error", x.why(2), 1);
        due("why(3)", x.why(3), BAD_VALUE);
        x.write("a0;");
        x.run();
        due("a run with BAD_TEXT leaves the report", x.why(1), 8);
        x.clearText();
        x.undo();
        x.ask(0);
        due("so do clearText, undo and actions", x.why(1), 8);
        x.write("a0");
        x.run();
        for (int what = 0; what < 3; what++) {
            due("all orders were executed", x.why(what), NONE);
        }
        x.undo();
        due("undo does not bring a report back", x.why(0), NONE);
    }

    private static void undo() {
        begin("16 undo");
        Archive x = new Archive();
        due("with an empty history", x.undo(), NONE);
        x.add(0, 1);
        x.set(6, 300);
        due("an action that changes nothing is undone", x.undo(), 1);
        due("the file is still there", x.count(0), 1);
        due("undo of add", x.undo(), 0);
        due("the file is gone", x.count(0), 0);
        due("no more to undo", x.undo(), NONE);
        due("its number is free again", x.add(1, 2), 0);
        due("the new one's kind", x.file(0, 0), 1);
        x.write("a0");
        x.run();
        x.undo();
        due("the text stays", x.clearText(), 2);
    }

    private static void undoDepth() {
        begin("16 undo, depth");
        Archive x = new Archive();
        for (int i = 0; i < 6; i++) {
            x.add(0, i + 1);
        }
        for (int left = 3; left >= 0; left--) {
            due("states left", x.undo(), left);
            due("files left", x.count(0), left + 2);
        }
        due("only four are held", x.undo(), NONE);
        x.add(0, 9);
        x.undo();
        x.add(0, 8);
        due("the pages of the last one", x.file(2, 1), 8);
        due("the pages of the others", x.count(2), 1 + 2 + 8);
        x.undo();
        due("without the last one", x.count(2), 1 + 2);
    }

    private static void undoAfterReuse() {
        begin("16 undo, places used again");
        Archive x = Archive.withFiles(13, 0, 1);
        x.reserve(0, 200);
        x.reserve(1, 100);
        x.seal(0, 0, 95);
        x.ask(2);
        x.pass(90);
        String before = seen(x);
        x.cancel(1, 100);
        x.cancel(0, 200);
        x.pass(90);
        due("the list of traces moved on", x.trace(11, 0), 3);
        x.undo();
        x.undo();
        due("undo of the first cancel", x.undo(), 1);
        check.holds("all is as before", before.equals(seen(x)));

        Archive fresh = Archive.withFiles(1, 0, 1);
        fresh.ask(0);
        fresh.seal(5, 0, -1);
        fresh.refer(0, 0);
        fresh.lift(5, 0);
        fresh.pass(90);
        fresh.add(1, 2);
        int[] want = {1, 2, 90, NONE, 0, NONE, 270, 0, 0, 0};
        for (int what = 0; what < 10; what++) {
            due("a new file after a burning, " + what, fresh.file(1, what), want[what]);
        }
    }

    private static void undoBringsBackAll() {
        begin("16 undo, all of the state");
        for (int action = 0; action < 10; action++) {
            Archive x = Archive.withFiles(4, 0, 3);
            x.pass(30);
            x.add(1, 5);
            x.ask(1);
            x.seal(2, 4, -1);
            x.refer(4, 2);
            x.reserve(3, 95);
            x.pass(60);
            String before = seen(x);
            switch (action) {
                case 0: x.add(2, 6); break;
                case 1: x.ask(2); break;
                case 2: x.seal(1, 3, 200); break;
                case 3: x.lift(2, 4); break;
                case 4: x.refer(4, 4); break;
                case 5: x.reserve(1, 96); break;
                case 6: x.cancel(3, 95); break;
                case 7: x.pass(400); break;
                case 8: x.set(0, 2000); break;
                default: x.write("a0;a1;n0,2;d300;n1,1"); x.run(); break;
            }
            check.holds("action " + action + " can be seen", !before.equals(seen(x)));
            due("undo", x.undo(), 3);
            check.holds("action " + action + " is undone", before.equals(seen(x)));
        }
    }

    private static void now() {
        begin("17 now");
        Archive x = new Archive();
        due("at first", x.now(), 0);
        x.pass(1);
        due("a day later", x.now(), 1);
        x.pass(400);
        due("400 days later", x.now(), 401);
        x.pass(401);
        due("after an error", x.now(), 401);
        x.ifPassed(100, 0);
        x.undo();
        due("undone", x.now(), 1);
    }

    private static void count() {
        begin("18 count");
        Archive x = Archive.withFiles(3, 0, 4);
        x.add(4, 7);
        x.ask(0);
        x.ask(3);
        x.reserve(1, 10);
        x.reserve(3, 2000);
        x.pass(180);
        x.ask(0);
        x.ask(2);
        x.ask(9);
        int[] want = {1, 4, 7, 3, 12, 3, 2, 2, 1, 3};
        for (int what = 0; what < 10; what++) {
            due("count(" + what + ")", x.count(what), want[what]);
        }
        due("count(-1)", x.count(-1), BAD_VALUE);
        due("count(10)", x.count(10), BAD_VALUE);
        for (int extreme : EXTREMES) {
            due("count(extreme)", x.count(extreme), BAD_VALUE);
        }
    }

    private static void fileAt() {
        begin("19 fileAt");
        Archive x = Archive.withFiles(2, 0, 1);
        x.add(1, 1);
        due("fileAt(0)", x.fileAt(0), 0);
        due("fileAt(2)", x.fileAt(2), 2);
        due("fileAt(3)", x.fileAt(3), NONE);
        due("fileAt(24)", x.fileAt(24), NONE);
        due("fileAt(-1)", x.fileAt(-1), BAD_VALUE);
        due("fileAt(lowest)", x.fileAt(Integer.MIN_VALUE), BAD_VALUE);
        due("fileAt(highest)", x.fileAt(Integer.MAX_VALUE), NONE);
        x.pass(90);
        due("after the burning", x.fileAt(0), 2);
        due("there is no second one", x.fileAt(1), NONE);
    }

    private static void file() {
        begin("20 file");
        Archive x = new Archive();
        x.pass(5);
        x.add(3, 20);
        x.add(0, 1);
        int[] first = {3, 20, 5, NONE, 0, NONE, 725, 0, 0, 0};
        for (int what = 0; what < 10; what++) {
            due("file(0, " + what + ") at first", x.file(0, what), first[what]);
        }
        x.pass(5);
        x.ask(0);
        x.refer(0, 1);
        x.refer(1, 0);
        x.seal(0, 0, 10);
        x.seal(3, 0, -1);
        x.seal(7, 0, 11);
        x.reserve(0, 20);
        x.reserve(0, 21);
        x.reserve(1, 21);
        int[] later = {3, 20, 5, 10, 1, 1, 730, 1 + 8 + 128, 1, 2};
        for (int what = 0; what < 10; what++) {
            due("file(0, " + what + ") later", x.file(0, what), later[what]);
        }
        x.pass(1);
        due("a seal does not hold any more", x.file(0, 7), 8 + 128);
        x.ask(0);
        x.ask(0);
        due("a loyal file", x.file(0, 6), 11 + 1440);
        due("file(0, -1)", x.file(0, -1), BAD_VALUE);
        due("file(0, 10)", x.file(0, 10), BAD_VALUE);
        due("file(2, 0)", x.file(2, 0), NO_SUCH);
        due("file(-1, 0)", x.file(-1, 0), NO_SUCH);
        due("file(2, 10)", x.file(2, 10), NO_SUCH);
        for (int extreme : EXTREMES) {
            due("file(extreme, 0)", x.file(extreme, 0), NO_SUCH);
            due("file(0, extreme)", x.file(0, extreme), BAD_VALUE);
        }
    }

    private static void sealOf() {
        begin("21 sealOf");
        Archive x = Archive.withFiles(2, 4, 1);
        x.seal(0, 0, 0);
        x.seal(1, 0, 9999);
        x.seal(2, 0, -1);
        due("sealOf(0, 0)", x.sealOf(0, 0), 0);
        due("sealOf(1, 0)", x.sealOf(1, 0), 9999);
        due("sealOf(2, 0)", x.sealOf(2, 0), 10000);
        due("sealOf(3, 0)", x.sealOf(3, 0), NONE);
        due("sealOf(0, 1)", x.sealOf(0, 1), NONE);
        x.pass(2);
        due("a seal that does not hold any more", x.sealOf(0, 0), 0);
        due("sealOf(8, 0)", x.sealOf(8, 0), NO_SUCH);
        due("sealOf(-1, 0)", x.sealOf(-1, 0), NO_SUCH);
        due("sealOf(0, 2)", x.sealOf(0, 2), NO_SUCH);
        due("sealOf(0, -1)", x.sealOf(0, -1), NO_SUCH);
        for (int extreme : EXTREMES) {
            due("sealOf(extreme, 0)", x.sealOf(extreme, 0), NO_SUCH);
            due("sealOf(0, extreme)", x.sealOf(0, extreme), NO_SUCH);
        }
    }

    private static void trace() {
        begin("22 trace");
        Archive x = new Archive();
        x.add(0, 11);
        x.add(1, 22);
        x.ask(1);
        x.ask(1);
        x.pass(180);
        int[] latest = {1, 1, 22, 180, 2};
        int[] first = {0, 0, 11, 90, 0};
        for (int what = 0; what < 5; what++) {
            due("trace(0, " + what + ")", x.trace(0, what), latest[what]);
            due("trace(1, " + what + ")", x.trace(1, what), first[what]);
        }
        due("trace(2, 0)", x.trace(2, 0), NONE);
        due("trace(-1, 0)", x.trace(-1, 0), BAD_VALUE);
        due("trace(0, -1)", x.trace(0, -1), BAD_VALUE);
        due("trace(0, 5)", x.trace(0, 5), BAD_VALUE);
        due("trace(2, 5)", x.trace(2, 5), BAD_VALUE);
        due("trace(highest, 0)", x.trace(Integer.MAX_VALUE, 0), NONE);
        due("trace(lowest, 0)", x.trace(Integer.MIN_VALUE, 0), BAD_VALUE);
        for (int extreme : EXTREMES) {
            due("trace(0, extreme)", x.trace(0, extreme), BAD_VALUE);
        }
    }

    private static void reservation() {
        begin("23 reservation");
        Archive x = Archive.withFiles(3, 0, 1);
        x.reserve(2, 50);
        x.reserve(1, 60);
        x.reserve(0, 50);
        x.reserve(0, 40);
        x.reserve(1, 50);
        int[][] want = {{0, 40}, {0, 50}, {1, 50}, {2, 50}, {1, 60}};
        for (int place = 0; place < 5; place++) {
            due("the file at " + place, x.reservation(place, 0), want[place][0]);
            due("the day at " + place, x.reservation(place, 1), want[place][1]);
        }
        due("reservation(5, 0)", x.reservation(5, 0), NONE);
        due("reservation(8, 0)", x.reservation(8, 0), NONE);
        due("reservation(-1, 0)", x.reservation(-1, 0), BAD_VALUE);
        due("reservation(0, -1)", x.reservation(0, -1), BAD_VALUE);
        due("reservation(0, 2)", x.reservation(0, 2), BAD_VALUE);
        due("reservation(9, 2)", x.reservation(9, 2), BAD_VALUE);
        due("reservation(highest, 0)", x.reservation(Integer.MAX_VALUE, 0), NONE);
        due("reservation(lowest, 0)", x.reservation(Integer.MIN_VALUE, 0), BAD_VALUE);
        for (int extreme : EXTREMES) {
            due("reservation(0, extreme)", x.reservation(0, extreme), BAD_VALUE);
        }
        x.pass(45);
        due("after its day another one is first", x.reservation(0, 1), 50);
    }

    private static void setting() {
        begin("24 setting");
        Archive x = new Archive();
        x.set(5, 20);
        x.set(0, 31);
        due("LOYAL", x.setting(ForgettingArchive.LOYAL), 20);
        due("PERIOD", x.setting(ForgettingArchive.PERIOD), 31);
        due("PERIOD of the kind 4", x.setting(ForgettingArchive.PERIOD + 4), 1440);
        due("SHELF", x.setting(ForgettingArchive.SHELF), 300);
        due("setting(-1)", x.setting(-1), NO_SUCH);
        due("setting(7)", x.setting(7), NO_SUCH);
        for (int extreme : EXTREMES) {
            due("setting(extreme)", x.setting(extreme), NO_SUCH);
        }
    }

    private static void meanAge() {
        begin("25 meanAge");
        Archive x = new Archive();
        due("without files", x.meanAge(), 0.0f);
        x.add(4, 1);
        due("on its day", x.meanAge(), 0.0f);
        x.pass(10);
        x.add(4, 1);
        x.add(4, 1);
        x.ask(0);
        due("ages 10, 0 and 0", x.meanAge(), 10.0f / 3.0f);
        x.pass(1);
        due("ages 11, 1 and 1", x.meanAge(), 13.0f / 3.0f);
    }

    private static void stays() {
        begin("26 stays");
        Archive x = Archive.withFiles(6, 0, 1);
        x.seal(0, 0, -1);
        x.reserve(0, 200);
        x.reserve(1, 200);
        x.refer(0, 0);
        x.refer(1, 2);
        x.refer(2, 3);
        x.refer(4, 5);
        x.refer(5, 4);
        for (int file = 0; file < 6; file++) {
            due("before they are due", x.stays(file), 1);
        }
        due("stays(6)", x.stays(6), NO_SUCH);
        due("stays(-1)", x.stays(-1), NO_SUCH);
        for (int extreme : EXTREMES) {
            due("stays(extreme)", x.stays(extreme), NO_SUCH);
        }
        // The shorter period makes them due between two burnings.
        x.set(0, 30);
        x.pass(29);
        due("the day before", x.stays(4), 1);
        x.pass(1);
        int[] want = {2, 3, 4, 4, 0, 0};
        for (int file = 0; file < 6; file++) {
            due("stays(" + file + ")", x.stays(file), want[file]);
        }
        due("nothing is burnt by that", x.count(0), 6);
        x.seal(1, 4, 30);
        due("sealed up to now", x.stays(4), 2);
        due("kept by it", x.stays(5), 4);
        x.pass(1);
        due("the seal does not hold", x.stays(4), 0);
        due("so it keeps nothing", x.stays(5), 0);
    }

    private static void keeper() {
        begin("27 keeper");
        Archive x = Archive.withFiles(6, 0, 1);
        x.set(0, 30);
        x.refer(0, 1);
        x.refer(1, 1);
        x.refer(2, 1);
        x.refer(3, 2);
        x.refer(5, 2);
        x.seal(0, 5, -1);
        due("a file that is not due", x.keeper(1), NONE);
        x.pass(30);
        due("the lowest one that stays is itself", x.keeper(1), 1);
        due("not the lowest one, which would be burnt", x.keeper(2), 5);
        due("a sealed one", x.keeper(5), NONE);
        due("one that would be burnt", x.keeper(0), NONE);
        due("keeper(6)", x.keeper(6), NO_SUCH);
        due("keeper(-1)", x.keeper(-1), NO_SUCH);
        for (int extreme : EXTREMES) {
            due("keeper(extreme)", x.keeper(extreme), NO_SUCH);
        }
        x.seal(0, 3, -1);
        due("the lower one of two", x.keeper(2), 3);
        x.refer(1, 0);
        due("a circle that is kept from outside", x.keeper(0), 1);
        due("its other file, by the lowest one", x.keeper(1), 0);
    }

    private static void burntIn() {
        begin("28 burntIn");
        Archive x = Archive.withFiles(1, 0, 1);
        x.add(1, 1);
        due("burntIn(0)", x.burntIn(0), 90);
        due("burntIn(1)", x.burntIn(1), 180);
        due("burntIn(2)", x.burntIn(2), NO_SUCH);
        due("burntIn(-1)", x.burntIn(-1), NO_SUCH);
        for (int extreme : EXTREMES) {
            due("burntIn(extreme)", x.burntIn(extreme), NO_SUCH);
        }
        x.pass(89);
        due("tomorrow", x.burntIn(0), 1);
        x.reserve(0, 90);
        due("with a reservation", x.burntIn(0), 91);
        x.seal(3, 1, 360);
        due("with a seal", x.burntIn(1), 361);
        x.refer(1, 0);
        due("with a reference", x.burntIn(0), 361);
        x.seal(4, 1, -1);
        due("with a seal without an end", x.burntIn(0), NONE);
        due("nothing is changed", x.count(8), 1);
        due("nor is now", x.now(), 89);

        Archive far = Archive.withFiles(1, 4, 1);
        far.set(4, 1500);
        far.set(5, 1);
        far.ask(0);
        far.add(4, 1);
        far.set(4, 1475);
        due("due on the day 2950", far.burntIn(0), 2970);
        far.set(4, 1490);
        due("due on the day 2980", far.burntIn(0), NONE);
        far.pass(59);
        due("in 3001 days", far.burntIn(0), NONE);
        far.pass(1);
        due("in 3000 days", far.burntIn(0), 3000);

        // Days after 9999 are like others, and seals without an end still hold on them.
        Archive late = new Archive();
        late.letPass(9999);
        late.add(0, 1);
        late.add(1, 1);
        late.add(0, 1);
        late.seal(0, 1, 9999);
        late.seal(1, 2, -1);
        due("due on the day 10089", late.burntIn(0), 10170 - 9999);
        due("sealed up to the last day", late.burntIn(1), 10260 - 9999);
        due("sealed for ever", late.burntIn(2), NONE);
        due("now stays", late.now(), 9999);
    }

    private static void ifPassed() {
        begin("29 ifPassed");
        Archive x = Archive.withFiles(2, 0, 7);
        x.add(1, 20);
        x.reserve(0, 10);
        x.reserve(2, 10);
        x.reserve(2, 12);
        String before = seen(x);
        due("files within 89 days", x.ifPassed(89, 0), 0);
        due("files within 90 days", x.ifPassed(90, 0), 1);
        due("pages within 90 days", x.ifPassed(90, 1), 7);
        due("files within 400 days", x.ifPassed(400, 0), 3);
        due("pages within 400 days", x.ifPassed(400, 1), 34);
        due("askings within 9 days", x.ifPassed(9, 2), 0);
        due("askings within 10 days", x.ifPassed(10, 2), 2);
        due("askings within 400 days", x.ifPassed(400, 2), 3);
        due("ifPassed(0, 0)", x.ifPassed(0, 0), BAD_VALUE);
        due("ifPassed(401, 0)", x.ifPassed(401, 0), BAD_VALUE);
        due("ifPassed(1, -1)", x.ifPassed(1, -1), BAD_VALUE);
        due("ifPassed(1, 3)", x.ifPassed(1, 3), BAD_VALUE);
        for (int extreme : EXTREMES) {
            due("ifPassed(extreme, 0)", x.ifPassed(extreme, 0), BAD_VALUE);
            due("ifPassed(1, extreme)", x.ifPassed(1, extreme), BAD_VALUE);
        }
        check.holds("nothing is changed", before.equals(seen(x)));
        x.pass(90);
        x.ask(2);
        due("only what would be added counts", x.ifPassed(1, 0) + x.ifPassed(1, 1) + x.ifPassed(1, 2), 0);

        Archive late = new Archive();
        late.letPass(9999);
        late.add(0, 3);
        late.add(0, 5);
        late.seal(0, 1, -1);
        due("beyond the day 9999", late.ifPassed(171, 1), 3);
        due("a day less", late.ifPassed(170, 1), 0);
        due("400 days", late.ifPassed(400, 0), 1);
    }

    private static void errorsChangeNothing() {
        begin("errors");
        Archive x = Archive.withFiles(2, 0, 1);
        x.seal(0, 0, 5);
        x.refer(0, 1);
        x.reserve(1, 9);
        x.pass(6);
        String before = seen(x);
        x.add(5, 1);
        x.add(0, 51);
        x.ask(2);
        x.seal(0, 0, 4);
        x.seal(0, 0, 10000);
        x.lift(1, 0);
        x.refer(0, 2);
        x.refer(2, 0);
        x.reserve(1, 9);
        x.reserve(1, 6);
        x.cancel(0, 9);
        x.pass(0);
        x.pass(401);
        x.set(0, 29);
        x.set(7, 1);
        x.run();
        check.holds("nothing is changed", before.equals(seen(x)));
        due("nor is the history", x.usedUpHistory(), 4);
    }
}
