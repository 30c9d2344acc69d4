import java.util.ArrayDeque;
import java.util.ArrayList;
import java.util.Comparator;
import java.util.Deque;
import java.util.List;
import java.util.Map;
import java.util.TreeMap;
import java.util.TreeSet;
import java.util.regex.Pattern;

/**
 * The document once more, written with the Java library and in another way than the class: states
 * are copied whole, reasons are found by repetition, faults by trying to complete the text.
 */
final class Oracle {
    static final int NO_SUCH = -1, BAD_VALUE = -2, BAD_TEXT = -3, TOO_MANY = -4, NOT_POSSIBLE = -5, NONE = -6;

    private static final String FILE = "(0|[1-9][0-9]?|1[0-9][0-9])";
    private static final String ORDER = "(n[0-4],([1-9]|[1-4][0-9]|50)|a" + FILE + "|[sl][0-7]," + FILE
        + "|f" + FILE + "," + FILE + "|d([1-9][0-9]?|[123][0-9][0-9]|400))";
    private static final Pattern TEXT = Pattern.compile(ORDER + "(;" + ORDER + ")*");
    /** Each beginning of a text is completed by at least one of these. */
    private static final String[] ENDS = {"", "a0", "0", "1", "0,1", "0,0", ",1", ",0"};

    private static final int[][] RANGES = {
        {30, 2000}, {30, 2000}, {30, 2000}, {30, 2000}, {30, 2000}, {1, 20}, {50, 600},
    };

    static final class Paper {
        int kind;
        int pages;
        int cameOn;
        Integer askedOn;
        int asked;
        Integer target;
        /** The last days by holders; null stands for none. */
        TreeMap<Integer, Integer> seals = new TreeMap<>();

        Paper copied() {
            Paper copy = new Paper();
            copy.kind = kind;
            copy.pages = pages;
            copy.cameOn = cameOn;
            copy.askedOn = askedOn;
            copy.asked = asked;
            copy.target = target;
            copy.seals = new TreeMap<>(seals);
            return copy;
        }
    }

    static final class World {
        int day;
        int came;
        int burnt;
        int burntPages;
        int askings;
        int regrets;
        int burnings;
        TreeMap<Integer, Paper> papers = new TreeMap<>();
        /** {day, file} */
        TreeSet<int[]> reservations = new TreeSet<>(
            Comparator.<int[]>comparingInt(r -> r[0]).thenComparingInt(r -> r[1]));
        ArrayList<int[]> traces = new ArrayList<>();
        int[] settings = {90, 180, 360, 720, 1440, 3, 300};

        World copied() {
            World copy = new World();
            copy.day = day;
            copy.came = came;
            copy.burnt = burnt;
            copy.burntPages = burntPages;
            copy.askings = askings;
            copy.regrets = regrets;
            copy.burnings = burnings;
            papers.forEach((number, paper) -> copy.papers.put(number, paper.copied()));
            copy.reservations.addAll(reservations);
            copy.traces.addAll(traces);
            copy.settings = settings.clone();
            return copy;
        }

        int pages() {
            return papers.values().stream().mapToInt(p -> p.pages).sum();
        }

        int due(Paper paper) {
            int period = settings[paper.kind];
            if (paper.asked >= settings[5]) {
                period += period;
            }
            return (paper.askedOn == null ? paper.cameOn : paper.askedOn) + period;
        }

        List<Integer> holders(Paper paper) {
            List<Integer> holders = new ArrayList<>();
            paper.seals.forEach((holder, last) -> {
                if (last == null || last >= day) {
                    holders.add(holder);
                }
            });
            return holders;
        }

        long reservationsFor(int number) {
            return reservations.stream().filter(r -> r[1] == number).count();
        }

        /** The reasons of the files that would stay. */
        Map<Integer, Integer> reasons() {
            Map<Integer, Integer> reasons = new TreeMap<>();
            papers.forEach((number, paper) -> {
                if (due(paper) > day) {
                    reasons.put(number, 1);
                } else if (!holders(paper).isEmpty()) {
                    reasons.put(number, 2);
                } else if (reservationsFor(number) > 0) {
                    reasons.put(number, 3);
                }
            });
            boolean more = true;
            while (more) {
                more = false;
                for (Map.Entry<Integer, Paper> entry : papers.entrySet()) {
                    Integer target = entry.getValue().target;
                    if (target != null && reasons.containsKey(entry.getKey()) && !reasons.containsKey(target)) {
                        reasons.put(target, 4);
                        more = true;
                    }
                }
            }
            return reasons;
        }

        int ask(int number) {
            if (number < 0 || number >= came) {
                return NO_SUCH;
            }
            Paper paper = papers.get(number);
            if (paper == null) {
                regrets++;
                return NONE;
            }
            askings++;
            paper.askedOn = day;
            return ++paper.asked;
        }

        int dayPasses() {
            day++;
            while (!reservations.isEmpty() && reservations.first()[0] == day) {
                ask(reservations.pollFirst()[1]);
            }
            if (day % 90 != 0) {
                return 0;
            }
            burnings++;
            Map<Integer, Integer> reasons = reasons();
            int removed = 0;
            for (Integer number : new ArrayList<>(papers.keySet())) {
                if (!reasons.containsKey(number)) {
                    Paper paper = papers.remove(number);
                    removed++;
                    burnt++;
                    burntPages += paper.pages;
                    traces.add(new int[] {number, paper.kind, paper.pages, day, paper.asked});
                    if (traces.size() > 12) {
                        traces.remove(0);
                    }
                }
            }
            for (Paper paper : papers.values()) {
                if (paper.target != null && !papers.containsKey(paper.target)) {
                    paper.target = null;
                }
            }
            return removed;
        }
    }

    World world = new World();
    private final Deque<World> history = new ArrayDeque<>();
    private String text = "";
    private int[] report = null;

    int lengthOfText() {
        return text.length();
    }

    int statesHeld() {
        return history.size();
    }

    /** Does one call, by its name in the document. */
    int call(String name, int... a) {
        switch (name) {
            case "add": case "ask": case "seal": case "lift": case "refer": case "reserve":
            case "cancel": case "pass": case "set": {
                World before = world.copied();
                int answer = act(name, a);
                if (answer >= 0 || answer == NONE) {
                    record(before);
                }
                return answer;
            }
            case "append": return append(a[0]);
            case "clearText": { int length = text.length(); text = ""; return length; }
            case "fault": return fault();
            case "run": return run();
            case "why": return a[0] < 0 || a[0] > 2 ? BAD_VALUE : report == null ? NONE : report[a[0]];
            case "undo": return undo();
            case "stays": case "keeper": case "burntIn": case "ifPassed": return foresee(name, a);
            default: return look(name, a);
        }
    }

    float meanAge() {
        float sum = 0;
        for (Paper paper : world.papers.values()) {
            sum += world.day - paper.cameOn;
        }
        return world.papers.isEmpty() ? 0.0f : sum / world.papers.size();
    }

    private void record(World before) {
        history.addLast(before);
        if (history.size() > 4) {
            history.removeFirst();
        }
    }

    private int act(String name, int[] a) {
        World w = world;
        switch (name) {
            case "add":
                if (a[0] < 0 || a[0] > 4 || a[1] < 1 || a[1] > 50) {
                    return BAD_VALUE;
                }
                if (w.papers.size() == 24 || w.came == 200 || w.pages() + a[1] > w.settings[6]) {
                    return TOO_MANY;
                }
                Paper paper = new Paper();
                paper.kind = a[0];
                paper.pages = a[1];
                paper.cameOn = w.day;
                w.papers.put(w.came, paper);
                return w.came++;
            case "ask":
                return w.ask(a[0]);
            case "seal":
                if (noHolder(a[0]) || noFile(a[1])) {
                    return NO_SUCH;
                }
                if (a[2] != -1 && (a[2] < w.day || a[2] > 9999)) {
                    return BAD_VALUE;
                }
                w.papers.get(a[1]).seals.put(a[0], a[2] == -1 ? null : Integer.valueOf(a[2]));
                return w.holders(w.papers.get(a[1])).size();
            case "lift":
                if (noHolder(a[0]) || noFile(a[1]) || !w.papers.get(a[1]).seals.containsKey(a[0])) {
                    return NO_SUCH;
                }
                w.papers.get(a[1]).seals.remove(a[0]);
                return w.holders(w.papers.get(a[1])).size();
            case "refer":
                if (noFile(a[0]) || noFile(a[1])) {
                    return NO_SUCH;
                }
                w.papers.get(a[0]).target = a[1];
                return referrers(a[1]);
            case "reserve":
                if (noFile(a[0])) {
                    return NO_SUCH;
                }
                if (a[1] < w.day + 1 || a[1] > 9999) {
                    return BAD_VALUE;
                }
                if (w.reservations.contains(new int[] {a[1], a[0]})) {
                    return NOT_POSSIBLE;
                }
                if (w.reservations.size() == 8) {
                    return TOO_MANY;
                }
                w.reservations.add(new int[] {a[1], a[0]});
                return w.reservations.size();
            case "cancel":
                return w.reservations.remove(new int[] {a[1], a[0]}) ? w.reservations.size() : NO_SUCH;
            case "pass":
                if (a[0] < 1 || a[0] > 400) {
                    return BAD_VALUE;
                }
                if (w.day + a[0] > 9999) {
                    return NOT_POSSIBLE;
                }
                int removed = 0;
                for (int i = 0; i < a[0]; i++) {
                    removed += w.dayPasses();
                }
                return removed;
            default:
                if (a[0] < 0 || a[0] > 6) {
                    return NO_SUCH;
                }
                if (a[1] < RANGES[a[0]][0] || a[1] > RANGES[a[0]][1]) {
                    return BAD_VALUE;
                }
                int previous = w.settings[a[0]];
                w.settings[a[0]] = a[1];
                return previous;
        }
    }

    private int append(int character) {
        if (character < 32 || character > 126) {
            return BAD_VALUE;
        }
        if (text.length() == 60) {
            return TOO_MANY;
        }
        text += (char) character;
        return text.length();
    }

    private static boolean canBegin(String beginning) {
        for (String end : ENDS) {
            if (TEXT.matcher(beginning + end).matches()) {
                return true;
            }
        }
        return false;
    }

    private int fault() {
        for (int i = 0; i < text.length(); i++) {
            if (!canBegin(text.substring(0, i + 1))) {
                return i;
            }
        }
        return TEXT.matcher(text).matches() ? NONE : text.length();
    }

    private int run() {
        if (!TEXT.matcher(text).matches()) {
            return BAD_TEXT;
        }
        record(world.copied());
        report = null;
        String[] orders = text.split(";");
        int start = 0;
        for (int i = 0; i < orders.length; i++) {
            int answer = obey(orders[i]);
            if (answer < 0 && answer != NONE) {
                report = new int[] {i, start, -answer};
                return i;
            }
            start += orders[i].length() + 1;
        }
        return orders.length;
    }

    private int obey(String order) {
        String[] words = order.substring(1).split(",");
        int first = Integer.parseInt(words[0]);
        int second = words.length > 1 ? Integer.parseInt(words[1]) : 0;
        switch (order.charAt(0)) {
            case 'n': return act("add", new int[] {first, second});
            case 'a': return act("ask", new int[] {first});
            case 's': return act("seal", new int[] {first, second, -1});
            case 'l': return act("lift", new int[] {first, second});
            case 'f': return act("refer", new int[] {first, second});
            default: return act("pass", new int[] {first});
        }
    }

    private int undo() {
        if (history.isEmpty()) {
            return NONE;
        }
        world = history.removeLast();
        return history.size();
    }

    private int look(String name, int[] a) {
        World w = world;
        switch (name) {
            case "now":
                return w.day;
            case "count":
                int[] counts = {w.papers.size(), w.came, w.pages(), w.burnt, w.burntPages, w.askings,
                    w.regrets, w.burnings, w.reservations.size(), w.traces.size()};
                return a[0] < 0 || a[0] > 9 ? BAD_VALUE : counts[a[0]];
            case "fileAt":
                if (a[0] < 0) {
                    return BAD_VALUE;
                }
                return a[0] < w.papers.size() ? new ArrayList<>(w.papers.keySet()).get(a[0]) : NONE;
            case "file":
                return noFile(a[0]) ? NO_SUCH : about(a[0], a[1]);
            case "sealOf":
                if (noHolder(a[0]) || noFile(a[1])) {
                    return NO_SUCH;
                }
                Map<Integer, Integer> seals = w.papers.get(a[1]).seals;
                return !seals.containsKey(a[0]) ? NONE : seals.get(a[0]) == null ? 10000 : seals.get(a[0]);
            case "trace":
                if (a[0] < 0 || a[1] < 0 || a[1] > 4) {
                    return BAD_VALUE;
                }
                return a[0] < w.traces.size() ? w.traces.get(w.traces.size() - 1 - a[0])[a[1]] : NONE;
            case "reservation":
                if (a[0] < 0 || a[1] < 0 || a[1] > 1) {
                    return BAD_VALUE;
                }
                return a[0] < w.reservations.size() ? new ArrayList<>(w.reservations).get(a[0])[1 - a[1]] : NONE;
            case "setting":
                return a[0] < 0 || a[0] > 6 ? NO_SUCH : w.settings[a[0]];
            default:
                throw new IllegalArgumentException(name);
        }
    }

    private int about(int number, int what) {
        Paper paper = world.papers.get(number);
        switch (what) {
            case 0: return paper.kind;
            case 1: return paper.pages;
            case 2: return paper.cameOn;
            case 3: return paper.askedOn == null ? NONE : paper.askedOn;
            case 4: return paper.asked;
            case 5: return paper.target == null ? NONE : paper.target;
            case 6: return world.due(paper);
            case 7: return world.holders(paper).stream().mapToInt(h -> 1 << h).sum();
            case 8: return referrers(number);
            case 9: return (int) world.reservationsFor(number);
            default: return BAD_VALUE;
        }
    }

    private int foresee(String name, int[] a) {
        World future = world.copied();
        if (name.equals("ifPassed")) {
            if (a[0] < 1 || a[0] > 400 || a[1] < 0 || a[1] > 2) {
                return BAD_VALUE;
            }
            for (int i = 0; i < a[0]; i++) {
                future.dayPasses();
            }
            int[] told = {future.burnt - world.burnt, future.burntPages - world.burntPages,
                future.askings - world.askings};
            return told[a[1]];
        }
        if (noFile(a[0])) {
            return NO_SUCH;
        }
        if (name.equals("burntIn")) {
            for (int days = 1; days <= 3000; days++) {
                future.dayPasses();
                if (!future.papers.containsKey(a[0])) {
                    return days;
                }
            }
            return NONE;
        }
        Map<Integer, Integer> reasons = world.reasons();
        int reason = reasons.getOrDefault(a[0], 0);
        if (name.equals("stays")) {
            return reason;
        }
        for (Map.Entry<Integer, Paper> entry : world.papers.entrySet()) {
            Integer target = entry.getValue().target;
            if (reason == 4 && target != null && target == a[0] && reasons.containsKey(entry.getKey())) {
                return entry.getKey();
            }
        }
        return NONE;
    }

    private int referrers(int number) {
        return (int) world.papers.values().stream().filter(p -> p.target != null && p.target == number).count();
    }

    private boolean noHolder(int holder) {
        return holder < 0 || holder > 7;
    }

    private boolean noFile(int number) {
        return !world.papers.containsKey(number);
    }
}
