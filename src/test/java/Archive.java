/**
 * A ForgettingArchive with what tests often do with it. It lets no test make more calls on one object
 * than the document promises anything about.
 */
final class Archive {
    static final int NO_SUCH = -1, BAD_VALUE = -2, BAD_TEXT = -3, TOO_MANY = -4, NOT_POSSIBLE = -5, NONE = -6;
    static final int CALLS = 512;
    /** One object has not calls enough to be looked at whole, so it is looked at in parts. */
    static final int PARTS = 5;

    private static final int FILES_A_PART = 8;
    private static final int TEXT_AND_HISTORY = 4;

    private final ForgettingArchive inner = new ForgettingArchive();
    private int calls = 0;

    private ForgettingArchive used() {
        if (calls >= CALLS) {
            throw new IllegalStateException("a test makes more than 512 calls on one object");
        }
        calls++;
        return inner;
    }

    int callsLeft() {
        return CALLS - calls;
    }

    // ---- the face

    int add(int kind, int pages) {
        return used().add(kind, pages);
    }

    int ask(int file) {
        return used().ask(file);
    }

    int seal(int holder, int file, int last) {
        return used().seal(holder, file, last);
    }

    int lift(int holder, int file) {
        return used().lift(holder, file);
    }

    int refer(int file, int target) {
        return used().refer(file, target);
    }

    int reserve(int file, int day) {
        return used().reserve(file, day);
    }

    int cancel(int file, int day) {
        return used().cancel(file, day);
    }

    int pass(int days) {
        return used().pass(days);
    }

    int set(int setting, int value) {
        return used().set(setting, value);
    }

    int append(int character) {
        return used().append(character);
    }

    int clearText() {
        return used().clearText();
    }

    int fault() {
        return used().fault();
    }

    int run() {
        return used().run();
    }

    int why(int what) {
        return used().why(what);
    }

    int undo() {
        return used().undo();
    }

    int now() {
        return used().now();
    }

    int count(int what) {
        return used().count(what);
    }

    int fileAt(int place) {
        return used().fileAt(place);
    }

    int file(int file, int what) {
        return used().file(file, what);
    }

    int sealOf(int holder, int file) {
        return used().sealOf(holder, file);
    }

    int trace(int ago, int what) {
        return used().trace(ago, what);
    }

    int reservation(int place, int what) {
        return used().reservation(place, what);
    }

    int setting(int setting) {
        return used().setting(setting);
    }

    float meanAge() {
        return used().meanAge();
    }

    int stays(int file) {
        return used().stays(file);
    }

    int keeper(int file) {
        return used().keeper(file);
    }

    int burntIn(int file) {
        return used().burntIn(file);
    }

    int ifPassed(int days, int what) {
        return used().ifPassed(days, what);
    }

    // ---- what tests often do

    /** An archive with so many files of a kind and so many pages each. */
    static Archive withFiles(int files, int kind, int pages) {
        Archive x = new Archive();
        for (int i = 0; i < files; i++) {
            x.add(kind, pages);
        }
        return x;
    }

    /** An archive without files to which 200 have come; the shelf and the list of traces are in use. */
    static Archive usedUp() {
        Archive x = new Archive();
        for (int came = 1; came <= 200; came++) {
            x.add(0, 1);
            if (came % 24 == 0 || came == 200) {
                x.pass(90);
            }
        }
        return x;
    }

    /** An archive on a day, without anything else. */
    static Archive onDay(int day) {
        Archive x = new Archive();
        x.letPass(day);
        return x;
    }

    void letPass(int days) {
        for (int left = days; left > 0; left -= 400) {
            pass(Math.min(left, 400));
        }
    }

    /** Writes a text in place of the one that is there. */
    Archive write(String text) {
        clearText();
        for (char sign : text.toCharArray()) {
            append(sign);
        }
        return this;
    }

    int runOf(String text) {
        return write(text).run();
    }

    int faultOf(String text) {
        return write(text).fault();
    }

    /** How many states are in the history; they are used up by this. */
    int usedUpHistory() {
        int states = 0;
        while (states < 100 && undo() != NONE) {
            states++;
        }
        return states;
    }

    /** The numbers of the stored files, in their order. */
    String stored() {
        StringBuilder numbers = new StringBuilder();
        for (int place = 0; place < 24; place++) {
            int number = fileAt(place);
            if (number == NONE) {
                break;
            }
            numbers.append(place == 0 ? "" : " ").append(number);
        }
        return numbers.toString();
    }

    /** A part of all that can be seen, as one text. */
    String seen(int part) {
        StringBuilder all = new StringBuilder();
        if (part == 0) {
            seeCounters(all);
            seeLists(all);
        } else if (part < TEXT_AND_HISTORY) {
            for (int place = 0; place < FILES_A_PART; place++) {
                seeFile(all, fileAt((part - 1) * FILES_A_PART + place));
            }
        } else {
            seeTextAndHistory(all);
        }
        return all.toString();
    }

    private void seeCounters(StringBuilder all) {
        all.append("now ").append(now()).append(" meanAge ").append(meanAge());
        for (int what = 0; what < 10; what++) {
            all.append(" c").append(count(what));
        }
        for (int setting = 0; setting < 7; setting++) {
            all.append(" s").append(setting(setting));
        }
    }

    private void seeLists(StringBuilder all) {
        for (int ago = 0; ago < 13; ago++) {
            for (int what = 0; what < 5; what++) {
                all.append(" t").append(trace(ago, what));
            }
        }
        for (int place = 0; place < 9; place++) {
            all.append(" r").append(reservation(place, 0)).append(':').append(reservation(place, 1));
        }
    }

    private void seeFile(StringBuilder all, int number) {
        all.append(" file ").append(number);
        for (int what = 0; number >= 0 && what < 10; what++) {
            all.append(' ').append(file(number, what));
        }
        for (int holder = 0; number >= 0 && holder < 8; holder++) {
            all.append(" h").append(sealOf(holder, number));
        }
        if (number >= 0) {
            all.append(' ').append(stays(number)).append(' ').append(keeper(number));
            all.append(' ').append(burntIn(number));
        }
    }

    /** Uses up the text and the history. */
    private void seeTextAndHistory(StringBuilder all) {
        all.append("fault ").append(fault()).append(" text ").append(clearText());
        for (int what = 0; what < 3; what++) {
            all.append(" y").append(why(what));
        }
        for (int states = 0; states < 6; states++) {
            all.append(" undo ").append(undo()).append(' ');
            seeCounters(all);
        }
    }
}
