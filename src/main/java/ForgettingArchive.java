import java.util.Arrays;

/**
 * An archive that forgets by schedule: files of kinds with periods, seals, references,
 * reservations, a burning at the end of each quarter, orders as texts, undo.
 *
 * Everything that an object ever needs is made in its constructor; no call makes an object.
 */
public final class ForgettingArchive {
    public static final int NO_SUCH = -1;
    public static final int BAD_VALUE = -2;
    public static final int BAD_TEXT = -3;
    public static final int TOO_MANY = -4;
    public static final int NOT_POSSIBLE = -5;
    public static final int NONE = -6;
    public static final int PERIOD = 0, LOYAL = 5, SHELF = 6;

    private static final int HIGHEST_KIND = 4;
    private static final int MAX_PAGES = 50;
    private static final int HOLDERS = 8;
    private static final int MAX_STORED = 24;
    private static final int MAX_CAME = 200;
    private static final int LAST_DAY = 9999;
    private static final int QUARTER = 90;
    private static final int MAX_PASS = 400;
    private static final int MAX_FORESIGHT = 3000;

    /** In place of a seal's last day: in calls, in what is kept, and for a missing seal. */
    private static final int WITHOUT_END = -1;
    private static final int ENDLESS = 10000;
    private static final int NO_SEAL = -1;

    private static final int MAX_RESERVATIONS = 8;
    private static final int MAX_TRACES = 12;
    private static final int TRACE_CELLS = 5;
    private static final int MAX_TEXT = 60;
    private static final int MAX_HISTORY = 4;

    private static final int SETTINGS = 7;
    private static final int[] FIRST_VALUES = {90, 180, 360, 720, 1440, 3, 300};
    private static final int[] LOWEST_VALUES = {30, 30, 30, 30, 30, 1, 50};
    private static final int[] HIGHEST_VALUES = {2000, 2000, 2000, 2000, 2000, 20, 600};

    private static final int BURNT = 0;
    private static final int NOT_DUE = 1;
    private static final int SEALED = 2;
    private static final int RESERVED = 3;
    private static final int REFERRED = 4;

    private final State state;
    /** A copy of the state on which days pass that only might. */
    private final State future;
    private final History history;
    private final OrderText text;

    /** The report of run; stoppedBy is 0 as long as there is nothing to report. */
    private int stoppedOrder;
    private int stoppedStart;
    private int stoppedBy;

    public ForgettingArchive() {
        state = new State();
        future = new State();
        history = new History();
        text = new OrderText();
    }

    // ---- files

    public int add(int kind, int pages) {
        history.draft(state);
        return recorded(state.addFile(kind, pages));
    }

    public int ask(int file) {
        history.draft(state);
        return recorded(state.askFor(file));
    }

    public int seal(int holder, int file, int last) {
        history.draft(state);
        return recorded(state.putSeal(holder, file, last));
    }

    public int lift(int holder, int file) {
        history.draft(state);
        return recorded(state.takeSeal(holder, file));
    }

    public int refer(int file, int target) {
        history.draft(state);
        return recorded(state.putReference(file, target));
    }

    public int reserve(int file, int day) {
        history.draft(state);
        return recorded(state.putReservation(file, day));
    }

    public int cancel(int file, int day) {
        history.draft(state);
        return recorded(state.takeReservation(file, day));
    }

    public int pass(int days) {
        history.draft(state);
        return recorded(state.passDays(days));
    }

    public int set(int setting, int value) {
        history.draft(state);
        return recorded(state.changeSetting(setting, value));
    }

    // ---- text, report and history

    public int append(int character) {
        if (character < 32 || character > 126) {
            return BAD_VALUE;
        }
        return text.appendSign((char) character) ? text.length : TOO_MANY;
    }

    public int clearText() {
        int before = text.length;
        text.length = 0;
        return before;
    }

    public int fault() {
        return text.findFault();
    }

    public int run() {
        if (text.findFault() != NONE) {
            return BAD_TEXT;
        }
        history.draft(state);
        stoppedBy = 0;
        text.at = 0;
        int executed = 0;
        boolean more = true;
        for (int turn = 0; more && turn < MAX_TEXT; turn++) {
            int start = text.at;
            text.readOrder();
            int answer = obey();
            if (isError(answer)) {
                report(executed, start, -answer);
                more = false;
            } else {
                executed++;
                more = text.readSign(';');
            }
        }
        history.keepDraft();
        return executed;
    }

    public int why(int what) {
        if (what < 0 || what > 2) {
            return BAD_VALUE;
        }
        if (stoppedBy == 0) {
            return NONE;
        }
        switch (what) {
            case 0: return stoppedOrder;
            case 1: return stoppedStart;
            default: return stoppedBy;
        }
    }

    public int undo() {
        State latest = history.takeLatest();
        if (latest == null) {
            return NONE;
        }
        state.copyFrom(latest);
        return history.size;
    }

    // ---- what there is; these methods change nothing

    public int now() {
        return state.now;
    }

    public int count(int what) {
        switch (what) {
            case 0: return state.stored;
            case 1: return state.came;
            case 2: return state.storedPages();
            case 3: return state.burntFiles;
            case 4: return state.burntPages;
            case 5: return state.askings;
            case 6: return state.regrets;
            case 7: return state.burnings;
            case 8: return state.reservations.size;
            case 9: return state.traces.size;
            default: return BAD_VALUE;
        }
    }

    public int fileAt(int place) {
        if (place < 0) {
            return BAD_VALUE;
        }
        return place < state.stored ? state.files[place].number : NONE;
    }

    public int file(int file, int what) {
        StoredFile found = state.find(file);
        if (found == null) {
            return NO_SUCH;
        }
        switch (what) {
            case 0: return found.kind;
            case 1: return found.pages;
            case 2: return found.cameOn;
            case 3: return found.askedOn;
            case 4: return found.timesAsked;
            case 5: return found.target;
            case 6: return state.dueDay(found);
            case 7: return found.holdersOn(state.now);
            case 8: return state.referrersOf(file);
            case 9: return state.reservations.numberFor(file);
            default: return BAD_VALUE;
        }
    }

    public int sealOf(int holder, int file) {
        StoredFile found = state.find(file);
        if (isNoHolder(holder) || found == null) {
            return NO_SUCH;
        }
        int end = found.sealEnds[holder];
        return end == NO_SEAL ? NONE : end;
    }

    public int trace(int ago, int what) {
        if (ago < 0 || what < 0 || what >= TRACE_CELLS) {
            return BAD_VALUE;
        }
        return ago < state.traces.size ? state.traces.cellOf(ago, what) : NONE;
    }

    public int reservation(int place, int what) {
        if (place < 0 || what < 0 || what > 1) {
            return BAD_VALUE;
        }
        if (place >= state.reservations.size) {
            return NONE;
        }
        return what == 0 ? state.reservations.files[place] : state.reservations.days[place];
    }

    public int setting(int setting) {
        return isNoSetting(setting) ? NO_SUCH : state.settings[setting];
    }

    public float meanAge() {
        if (state.stored == 0) {
            return 0.0f;
        }
        return (float) state.sumOfAges() / (float) state.stored;
    }

    // ---- what would be; these methods change nothing

    public int stays(int file) {
        StoredFile found = state.find(file);
        if (found == null) {
            return NO_SUCH;
        }
        state.markReasons();
        return found.reason;
    }

    public int keeper(int file) {
        int reason = stays(file);
        if (reason == NO_SUCH) {
            return NO_SUCH;
        }
        return reason == REFERRED ? state.lowestKeeperOf(file) : NONE;
    }

    public int burntIn(int file) {
        if (state.find(file) == null) {
            return NO_SUCH;
        }
        future.copyFrom(state);
        for (int days = 1; days <= MAX_FORESIGHT; days++) {
            if (future.passDay() > 0 && future.find(file) == null) {
                return days;
            }
        }
        return NONE;
    }

    public int ifPassed(int days, int what) {
        if (days < 1 || days > MAX_PASS || what < 0 || what > 2) {
            return BAD_VALUE;
        }
        future.copyFrom(state);
        for (int day = 0; day < days; day++) {
            future.passDay();
        }
        switch (what) {
            case 0: return future.burntFiles - state.burntFiles;
            case 1: return future.burntPages - state.burntPages;
            default: return future.askings - state.askings;
        }
    }

    // ---- helpers of the calls

    private static boolean isError(int answer) {
        return answer < 0 && answer != NONE;
    }

    private static boolean isNoHolder(int holder) {
        return holder < 0 || holder >= HOLDERS;
    }

    private static boolean isNoSetting(int setting) {
        return setting < 0 || setting >= SETTINGS;
    }

    /** Keeps the drafted state in the history, if the action that followed it counts. */
    private int recorded(int answer) {
        if (!isError(answer)) {
            history.keepDraft();
        }
        return answer;
    }

    private void report(int order, int start, int error) {
        stoppedOrder = order;
        stoppedStart = start;
        stoppedBy = error;
    }

    /** Executes the order that was read last. */
    private int obey() {
        switch (text.letter) {
            case 'n': return state.addFile(text.first, text.second);
            case 'a': return state.askFor(text.first);
            case 's': return state.putSeal(text.first, text.second, WITHOUT_END);
            case 'l': return state.takeSeal(text.first, text.second);
            case 'f': return state.putReference(text.first, text.second);
            default: return state.passDays(text.first);
        }
    }

    /** A place for one stored file; it is used again when its file is burnt. */
    private static final class StoredFile {
        int number;
        int kind;
        int pages;
        int cameOn;
        int askedOn;
        int timesAsked;
        int target;
        /** For each holder the last day of its seal, ENDLESS or NO_SEAL. */
        final int[] sealEnds = new int[HOLDERS];
        /** What markReasons found; it is no part of the state. */
        int reason;

        void comeAs(int newNumber, int newKind, int newPages, int day) {
            number = newNumber;
            kind = newKind;
            pages = newPages;
            cameOn = day;
            askedOn = NONE;
            timesAsked = 0;
            target = NONE;
            Arrays.fill(sealEnds, NO_SEAL);
        }

        void copyFrom(StoredFile other) {
            number = other.number;
            kind = other.kind;
            pages = other.pages;
            cameOn = other.cameOn;
            askedOn = other.askedOn;
            timesAsked = other.timesAsked;
            target = other.target;
            System.arraycopy(other.sealEnds, 0, sealEnds, 0, HOLDERS);
        }

        /** The holders whose seals hold on a day, as a bit mask. */
        int holdersOn(int day) {
            int mask = 0;
            for (int holder = 0; holder < HOLDERS; holder++) {
                int end = sealEnds[holder];
                // Foresight goes beyond the day 10000, which stands for no end at all.
                if (end == ENDLESS || end >= day) {
                    mask |= 1 << holder;
                }
            }
            return mask;
        }
    }

    /** The reservations, in the ascending order of their days and then of their files. */
    private static final class Reservations {
        int size;
        final int[] files = new int[MAX_RESERVATIONS];
        final int[] days = new int[MAX_RESERVATIONS];

        void copyFrom(Reservations other) {
            size = other.size;
            System.arraycopy(other.files, 0, files, 0, MAX_RESERVATIONS);
            System.arraycopy(other.days, 0, days, 0, MAX_RESERVATIONS);
        }

        /** The place of a reservation, or -1. */
        int placeOf(int file, int day) {
            for (int place = 0; place < size; place++) {
                if (files[place] == file && days[place] == day) {
                    return place;
                }
            }
            return -1;
        }

        int numberFor(int file) {
            int number = 0;
            for (int place = 0; place < size; place++) {
                if (files[place] == file) {
                    number++;
                }
            }
            return number;
        }

        void insert(int file, int day) {
            if (size >= MAX_RESERVATIONS) {
                return;
            }
            int place = size;
            for (; place > 0 && comesBefore(file, day, place - 1); place--) {
                files[place] = files[place - 1];
                days[place] = days[place - 1];
            }
            files[place] = file;
            days[place] = day;
            size++;
        }

        boolean comesBefore(int file, int day, int place) {
            return day < days[place] || (day == days[place] && file < files[place]);
        }

        void removeAt(int place) {
            if (place < 0 || place >= size) {
                return;
            }
            size--;
            for (int at = place; at < size; at++) {
                files[at] = files[at + 1];
                days[at] = days[at + 1];
            }
        }
    }

    /** The traces, the oldest one first, each in TRACE_CELLS cells of one row. */
    private static final class Traces {
        int size;
        final int[] cells = new int[MAX_TRACES * TRACE_CELLS];

        void copyFrom(Traces other) {
            size = other.size;
            System.arraycopy(other.cells, 0, cells, 0, MAX_TRACES * TRACE_CELLS);
        }

        void leave(StoredFile file, int day) {
            if (size >= MAX_TRACES) {
                size = MAX_TRACES - 1;
                System.arraycopy(cells, TRACE_CELLS, cells, 0, size * TRACE_CELLS);
            }
            int start = size * TRACE_CELLS;
            cells[start] = file.number;
            cells[start + 1] = file.kind;
            cells[start + 2] = file.pages;
            cells[start + 3] = day;
            cells[start + 4] = file.timesAsked;
            size++;
        }

        int cellOf(int ago, int what) {
            if (ago < 0 || ago >= size || what < 0 || what >= TRACE_CELLS) {
                return NONE;
            }
            return cells[(size - 1 - ago) * TRACE_CELLS + what];
        }
    }

    /** All that undo brings back; its actions check their arguments and change nothing if they fail. */
    private static final class State {
        int now;
        int stored;
        int came;
        int burntFiles;
        int burntPages;
        int askings;
        int regrets;
        int burnings;
        /** The stored files are the first ones, in the ascending order of their numbers. */
        final StoredFile[] files = new StoredFile[MAX_STORED];
        final Reservations reservations = new Reservations();
        final Traces traces = new Traces();
        final int[] settings = new int[SETTINGS];

        State() {
            for (int place = 0; place < MAX_STORED; place++) {
                files[place] = new StoredFile();
            }
            System.arraycopy(FIRST_VALUES, 0, settings, 0, SETTINGS);
        }

        void copyFrom(State other) {
            now = other.now;
            stored = other.stored;
            came = other.came;
            burntFiles = other.burntFiles;
            burntPages = other.burntPages;
            askings = other.askings;
            regrets = other.regrets;
            burnings = other.burnings;
            for (int place = 0; place < stored; place++) {
                files[place].copyFrom(other.files[place]);
            }
            reservations.copyFrom(other.reservations);
            traces.copyFrom(other.traces);
            System.arraycopy(other.settings, 0, settings, 0, SETTINGS);
        }

        // -- actions

        int addFile(int kind, int pages) {
            if (kind < 0 || kind > HIGHEST_KIND || pages < 1 || pages > MAX_PAGES) {
                return BAD_VALUE;
            }
            if (stored >= MAX_STORED || came >= MAX_CAME || storedPages() + pages > settings[SHELF]) {
                return TOO_MANY;
            }
            files[stored].comeAs(came, kind, pages, now);
            stored++;
            came++;
            return came - 1;
        }

        int askFor(int number) {
            if (number < 0 || number >= came) {
                return NO_SUCH;
            }
            StoredFile file = find(number);
            if (file == null) {
                regrets++;
                return NONE;
            }
            askStored(file);
            return file.timesAsked;
        }

        int putSeal(int holder, int number, int last) {
            StoredFile file = find(number);
            if (isNoHolder(holder) || file == null) {
                return NO_SUCH;
            }
            if (last != WITHOUT_END && (last < now || last > LAST_DAY)) {
                return BAD_VALUE;
            }
            file.sealEnds[holder] = last == WITHOUT_END ? ENDLESS : last;
            return Integer.bitCount(file.holdersOn(now));
        }

        int takeSeal(int holder, int number) {
            StoredFile file = find(number);
            if (isNoHolder(holder) || file == null || file.sealEnds[holder] == NO_SEAL) {
                return NO_SUCH;
            }
            file.sealEnds[holder] = NO_SEAL;
            return Integer.bitCount(file.holdersOn(now));
        }

        int putReference(int number, int target) {
            StoredFile file = find(number);
            if (file == null || find(target) == null) {
                return NO_SUCH;
            }
            file.target = target;
            return referrersOf(target);
        }

        int putReservation(int number, int day) {
            if (find(number) == null) {
                return NO_SUCH;
            }
            if (day <= now || day > LAST_DAY) {
                return BAD_VALUE;
            }
            if (reservations.placeOf(number, day) >= 0) {
                return NOT_POSSIBLE;
            }
            if (reservations.size >= MAX_RESERVATIONS) {
                return TOO_MANY;
            }
            reservations.insert(number, day);
            return reservations.size;
        }

        int takeReservation(int number, int day) {
            int place = reservations.placeOf(number, day);
            if (place < 0) {
                return NO_SUCH;
            }
            reservations.removeAt(place);
            return reservations.size;
        }

        int passDays(int days) {
            if (days < 1 || days > MAX_PASS) {
                return BAD_VALUE;
            }
            if (now + days > LAST_DAY) {
                return NOT_POSSIBLE;
            }
            int burnt = 0;
            for (int day = 0; day < days; day++) {
                burnt += passDay();
            }
            return burnt;
        }

        int changeSetting(int setting, int value) {
            if (isNoSetting(setting)) {
                return NO_SUCH;
            }
            if (value < LOWEST_VALUES[setting] || value > HIGHEST_VALUES[setting]) {
                return BAD_VALUE;
            }
            int previous = settings[setting];
            settings[setting] = value;
            return previous;
        }

        // -- days and burnings

        /** Lets one day pass, whether or not there is such a day; answers how many files it burnt. */
        int passDay() {
            now++;
            askReserved();
            if (now % QUARTER != 0) {
                return 0;
            }
            markReasons();
            return burnUnmarked();
        }

        void askReserved() {
            for (int turn = 0; turn < MAX_RESERVATIONS; turn++) {
                if (reservations.size == 0 || reservations.days[0] != now) {
                    return;
                }
                StoredFile file = find(reservations.files[0]);
                reservations.removeAt(0);
                if (file != null) {
                    askStored(file);
                }
            }
        }

        void askStored(StoredFile file) {
            file.askedOn = now;
            file.timesAsked++;
            askings++;
        }

        /** Writes into each stored file why it would stay in a burning on the day of now. */
        void markReasons() {
            for (int place = 0; place < stored; place++) {
                files[place].reason = ownReason(files[place]);
            }
            for (int place = 0; place < stored; place++) {
                if (files[place].reason != BURNT && files[place].reason != REFERRED) {
                    markReferredFrom(files[place]);
                }
            }
        }

        /** The first of the reasons that need no other file. */
        int ownReason(StoredFile file) {
            if (dueDay(file) > now) {
                return NOT_DUE;
            }
            if (file.holdersOn(now) != 0) {
                return SEALED;
            }
            return reservations.numberFor(file.number) > 0 ? RESERVED : BURNT;
        }

        /**
         * Goes along the references from a file that stays. A file with a reason ends the way:
         * the files behind it are marked from it, or were when it was marked itself.
         */
        void markReferredFrom(StoredFile keeping) {
            StoredFile file = keeping;
            for (int step = 0; step < MAX_STORED; step++) {
                file = find(file.target);
                if (file == null || file.reason != BURNT) {
                    return;
                }
                file.reason = REFERRED;
            }
        }

        /**
         * Burns the files without a reason. No reference has to be removed: a file that stays
         * keeps the file to which it refers.
         */
        int burnUnmarked() {
            burnings++;
            int before = stored;
            int kept = 0;
            for (int place = 0; place < before; place++) {
                StoredFile file = files[place];
                if (file.reason == BURNT) {
                    burntFiles++;
                    burntPages += file.pages;
                    traces.leave(file, now);
                } else {
                    // An exchange, so that the place of a burnt file can be used again.
                    files[place] = files[kept];
                    files[kept] = file;
                    kept++;
                }
            }
            stored = kept;
            return before - kept;
        }

        // -- what there is

        /** The stored file with a number, or null. */
        StoredFile find(int number) {
            for (int place = 0; place < stored; place++) {
                if (files[place].number == number) {
                    return files[place];
                }
            }
            return null;
        }

        int storedPages() {
            int pages = 0;
            for (int place = 0; place < stored; place++) {
                pages += files[place].pages;
            }
            return pages;
        }

        int sumOfAges() {
            int sum = 0;
            for (int place = 0; place < stored; place++) {
                sum += now - files[place].cameOn;
            }
            return sum;
        }

        int dueDay(StoredFile file) {
            int period = settings[PERIOD + file.kind];
            int start = file.askedOn == NONE ? file.cameOn : file.askedOn;
            return file.timesAsked >= settings[LOYAL] ? start + 2 * period : start + period;
        }

        int referrersOf(int target) {
            int number = 0;
            for (int place = 0; place < stored; place++) {
                if (files[place].target == target) {
                    number++;
                }
            }
            return number;
        }

        /** The lowest file that stays and refers to a target, by the reasons marked last. */
        int lowestKeeperOf(int target) {
            for (int place = 0; place < stored; place++) {
                if (files[place].target == target && files[place].reason != BURNT) {
                    return files[place].number;
                }
            }
            return NONE;
        }
    }

    /** The states before the latest actions, the oldest one first, and a draft behind them. */
    private static final class History {
        int size;
        final State[] states = new State[MAX_HISTORY + 1];

        History() {
            for (int place = 0; place <= MAX_HISTORY; place++) {
                states[place] = new State();
            }
        }

        /** Copies a state to behind the kept ones; it is not kept by this alone. */
        void draft(State current) {
            states[size].copyFrom(current);
        }

        void keepDraft() {
            if (size < MAX_HISTORY) {
                size++;
                return;
            }
            State oldest = states[0];
            for (int place = 0; place < MAX_HISTORY; place++) {
                states[place] = states[place + 1];
            }
            states[MAX_HISTORY] = oldest;
        }

        /** Removes the latest state and hands it out, or null; it is good until the next draft. */
        State takeLatest() {
            if (size == 0) {
                return null;
            }
            size--;
            return states[size];
        }
    }

    /** The text, and a reader that goes over it from order to order. */
    private static final class OrderText {
        final char[] signs = new char[MAX_TEXT];
        int length;
        /** Where the reader stands; after a failed reading, the index of the fault. */
        int at;
        /** The order that was read last. */
        char letter;
        int first;
        int second;

        boolean appendSign(char sign) {
            if (length >= MAX_TEXT) {
                return false;
            }
            signs[length] = sign;
            length++;
            return true;
        }

        int findFault() {
            at = 0;
            for (int order = 0; order <= MAX_TEXT; order++) {
                if (!readOrder()) {
                    return at;
                }
                if (at >= length) {
                    return NONE;
                }
                if (!readSign(';')) {
                    return at;
                }
            }
            return at;
        }

        boolean readOrder() {
            letter = signHere();
            switch (letter) {
                case 'n':
                    return readFirst(0, HIGHEST_KIND) && readSecond(1, MAX_PAGES);
                case 'a':
                    return readFirst(0, MAX_CAME - 1);
                case 's':
                case 'l':
                    return readFirst(0, HOLDERS - 1) && readSecond(0, MAX_CAME - 1);
                case 'f':
                    return readFirst(0, MAX_CAME - 1) && readSecond(0, MAX_CAME - 1);
                case 'd':
                    return readFirst(1, MAX_PASS);
                default:
                    return false;
            }
        }

        /** Goes past the letter, which is one of an order, and reads the number behind it. */
        boolean readFirst(int low, int high) {
            at++;
            first = readNumber(low, high);
            return first >= 0;
        }

        boolean readSecond(int low, int high) {
            if (!readSign(',')) {
                return false;
            }
            second = readNumber(low, high);
            return second >= 0;
        }

        boolean readSign(char sign) {
            if (signHere() != sign) {
                return false;
            }
            at++;
            return true;
        }

        /**
         * Reads a number, or answers -1. It takes as many digits as can belong to the number, so that
         * the reader stops at the first digit that can't; every beginning it takes is a number itself.
         */
        int readNumber(int low, int high) {
            int value = digitHere();
            if (value < low || value > high) {
                return -1;
            }
            at++;
            for (int place = 0; place < MAX_TEXT; place++) {
                int digit = digitHere();
                if (digit < 0 || value == 0 || value * 10 + digit > high) {
                    return value;
                }
                value = value * 10 + digit;
                at++;
            }
            return value;
        }

        /** The value of the digit at which the reader stands, or -1. */
        int digitHere() {
            char sign = signHere();
            return sign >= '0' && sign <= '9' ? sign - '0' : -1;
        }

        /** The sign at which the reader stands; 0, which no text contains, at its end. */
        char signHere() {
            return at >= 0 && at < length ? signs[at] : (char) 0;
        }
    }
}
