import java.util.ArrayList;
import java.util.Arrays;
import java.util.Collections;
import java.util.HashSet;
import java.util.List;
import java.util.Random;
import java.util.Set;

/**
 * Runs of 512 calls on the class and on the Oracle, always the same ones (the seeds are fixed), in several
 * moods: some keep the archive full, some let much time pass, some write many texts.
 */
public final class OracleTest {
    private static final int RUNS_PER_MOOD = 700;
    /** How often each call comes up, by moods: even, crowded, hasty, literary, bound, using up. */
    private static final String[] NAMES = {"add", "ask", "seal", "lift", "refer", "reserve", "cancel", "pass",
        "set", "text", "undo", "run", "foresee", "look"};
    private static final int CROWDED = 1, HASTY = 2, USING_UP = 5;
    private static final int[][] MOODS = {
        {10, 5, 5, 3, 5, 5, 2, 6, 2, 1, 2, 2, 4, 8},
        {40, 5, 5, 1, 8, 5, 1, 5, 3, 1, 1, 1, 4, 6},
        {25, 2, 2, 1, 4, 3, 1, 20, 3, 1, 1, 1, 4, 6},
        {3, 1, 1, 1, 1, 1, 1, 1, 1, 20, 2, 12, 2, 6},
        {10, 3, 12, 2, 14, 6, 2, 9, 1, 1, 1, 1, 10, 6},
        {80, 1, 1, 1, 1, 1, 1, 12, 1, 0, 1, 0, 0, 1},
    };
    private static final int[] ODD = {-1, -6, Integer.MIN_VALUE, Integer.MAX_VALUE, 24, 199, 200, 10000, 7, 8};
    /** What the runs must come to together, or they would not test much. */
    private static final String[] EDGES = {"24 files", "200 files came", "no more room for pages", "8 reservations",
        "12 traces", "a text of 60", "4 states", "the day 9999", "add -2", "add -4", "ask -1", "ask -6", "seal -1",
        "seal -2", "lift -1", "refer -1", "reserve -1", "reserve -2", "reserve -5", "reserve -4", "cancel -1",
        "pass -2", "pass -5", "set -1", "set -2", "append -2", "append -4", "fault -6", "run -3", "run 0", "run 9",
        "why -2", "why -6", "why 1", "why 4", "why 5", "undo -6", "undo 3", "stays -1", "stays 0", "stays 1",
        "stays 2", "stays 3", "stays 4", "keeper -1", "keeper -6", "keeper 0", "burntIn -1", "burntIn -6",
        "burntIn 1", "ifPassed -2", "ifPassed 24"};

    private final Check check;
    private final Random random;
    private final int mood;
    private final Set<String> edges;
    private final Archive archive = new Archive();
    private final Oracle oracle = new Oracle();
    private final List<String> past = new ArrayList<>();

    private OracleTest(Check check, int mood, int seed, Set<String> edges) {
        this.check = check;
        this.mood = mood;
        this.random = new Random(1000L * mood + seed);
        this.edges = edges;
        check.begin("mood " + mood + ", seed " + seed);
    }

    public static void main(String[] args) {
        Check check = new Check();
        Set<String> edges = new HashSet<>();
        for (int mood = 0; mood < MOODS.length; mood++) {
            for (int seed = 0; seed < RUNS_PER_MOOD && check.isFine(); seed++) {
                new OracleTest(check, mood, seed, edges).goThrough();
            }
        }
        check.begin("all runs");
        for (String edge : EDGES) {
            check.holds("one of them comes to: " + edge, edges.contains(edge));
        }
        check.end();
    }

    /** The last calls of a run look at all that there is, as far as they suffice. */
    private void goThrough() {
        int looks = random.nextInt(mood == USING_UP ? 100 : 250);
        while (archive.callsLeft() > looks && check.isFine()) {
            doSomething();
        }
        lookAtAll();
        if (!check.isFine()) {
            System.out.println(past);
        }
    }

    private void doSomething() {
        int total = 0;
        for (int weight : MOODS[mood]) {
            total += weight;
        }
        int drawn = random.nextInt(total);
        int which = 0;
        while (drawn >= MOODS[mood][which]) {
            drawn -= MOODS[mood][which];
            which++;
        }
        String name = NAMES[which];
        switch (name) {
            case "add": addSome(); break;
            case "ask": both(name, anyFile()); break;
            case "seal": both(name, odd(random.nextInt(8)), anyFile(), lastDay()); break;
            case "lift": both(name, odd(random.nextInt(8)), anyFile()); break;
            case "refer": both(name, anyFile(), anyFile()); break;
            case "reserve": both(name, anyFile(), odd(oracle.world.day + random.nextInt(120))); break;
            case "cancel": cancelSome(); break;
            case "pass": both(name, odd(daysToPass())); break;
            case "set": setSome(); break;
            case "text": writeSome(); break;
            case "foresee": foreseeSome(); break;
            case "look": lookAtSome(); break;
            default: both(name); break;
        }
    }

    private void addSome() {
        boolean isFlood = mood == CROWDED || mood == USING_UP;
        both("add", odd(random.nextInt(mood == USING_UP ? 2 : 5)), odd(1 + random.nextInt(isFlood ? 12 : 50)));
    }

    private int daysToPass() {
        int toBurning = 90 - oracle.world.day % 90;
        switch (random.nextInt(4)) {
            case 0: return toBurning;
            case 1: return 1 + random.nextInt(400);
            case 2: return mood == HASTY ? 400 : 1 + random.nextInt(3);
            default: return 1 + random.nextInt(90);
        }
    }

    private int lastDay() {
        return random.nextInt(4) == 0 ? -1 : odd(oracle.world.day - 1 + random.nextInt(200));
    }

    private void cancelSome() {
        int size = oracle.world.reservations.size();
        if (size > 0 && random.nextInt(4) > 0) {
            int[] chosen = new ArrayList<>(oracle.world.reservations).get(random.nextInt(size));
            both("cancel", chosen[1], chosen[0]);
        } else {
            both("cancel", anyFile(), odd(oracle.world.day + random.nextInt(100)));
        }
    }

    private void setSome() {
        int setting = odd(random.nextInt(7));
        int value = setting == 5 ? 1 + random.nextInt(6) : setting == 6 ? 50 + random.nextInt(551)
            : 25 + random.nextInt(random.nextBoolean() ? 100 : 2000);
        both("set", setting, odd(value));
    }

    private void writeSome() {
        if (random.nextInt(4) == 0) {
            both("clearText");
        }
        String words = "";
        int orders = 1 + random.nextInt(12);
        for (int i = 0; i < orders; i++) {
            words += (i == 0 && random.nextInt(3) > 0 ? "" : ";") + someOrder();
        }
        if (random.nextInt(4) == 0 && !words.isEmpty()) {
            int at = random.nextInt(words.length());
            words = words.substring(0, at) + "nasldf;,0159 ".charAt(random.nextInt(13))
                + words.substring(at + random.nextInt(2));
        }
        boolean watched = random.nextInt(3) == 0;
        for (char sign : words.toCharArray()) {
            both("append", odd(sign));
            if (watched) {
                both("fault");
            }
        }
        both("fault");
        both("run");
        for (int what = -1; what <= 3; what++) {
            both("why", what);
        }
    }

    private String someOrder() {
        int few = random.nextInt(3) == 0 ? random.nextInt(210) : random.nextInt(oracle.world.came + 2);
        int few2 = random.nextInt(oracle.world.came + 2);
        switch (random.nextInt(6)) {
            case 0: return "n" + random.nextInt(5) + "," + (1 + random.nextInt(random.nextInt(4) == 0 ? 55 : 30));
            case 1: return "a" + few;
            case 2: return "s" + random.nextInt(8) + "," + few2;
            case 3: return "l" + random.nextInt(8) + "," + few2;
            case 4: return "f" + few2 + "," + few2;
            default: return "d" + (1 + random.nextInt(random.nextInt(4) == 0 ? 420 : 100));
        }
    }

    private void foreseeSome() {
        both("stays", anyFile());
        both("keeper", anyFile());
        both("burntIn", anyFile());
        both("ifPassed", odd(1 + random.nextInt(400)), odd(random.nextInt(3)));
    }

    private void lookAtSome() {
        both("count", odd(random.nextInt(10)));
        both("fileAt", odd(random.nextInt(24)));
        both("file", anyFile(), odd(random.nextInt(10)));
        both("sealOf", odd(random.nextInt(8)), anyFile());
        both("trace", odd(random.nextInt(12)), odd(random.nextInt(5)));
        both("reservation", odd(random.nextInt(8)), odd(random.nextInt(2)));
        both("setting", odd(random.nextInt(7)));
        both("why", odd(random.nextInt(3)));
    }

    private void lookAtAll() {
        both("now");
        if (archive.callsLeft() > 0) {
            check.due("meanAge()", archive.meanAge(), oracle.meanAge());
        }
        for (int what = 0; what < 10; what++) {
            both("count", what);
            both("setting", what);
        }
        for (int at = 0; at < 9; at++) {
            both("reservation", at, 0);
            both("reservation", at, 1);
        }
        List<Integer> stored = new ArrayList<>(oracle.world.papers.keySet());
        Collections.shuffle(stored, random);
        for (int number : stored) {
            lookAtFile(number);
        }
        for (int at = 0; archive.callsLeft() > 0; at++) {
            both("fileAt", at);
            both("trace", at % 13, random.nextInt(5));
        }
    }

    private void lookAtFile(int number) {
        for (int what = 0; what < 10; what++) {
            both("file", number, what);
        }
        both("sealOf", random.nextInt(8), number);
        both("stays", number);
        both("keeper", number);
    }

    /** A number, or now and then another one that is often out of its range. */
    private int odd(int number) {
        return random.nextInt(25) > 0 ? number : ODD[random.nextInt(ODD.length)];
    }

    /** Mostly a stored file, now and then one that was burnt or never came. */
    private int anyFile() {
        List<Integer> stored = new ArrayList<>(oracle.world.papers.keySet());
        if (stored.isEmpty() || random.nextInt(12) == 0) {
            return odd(random.nextInt(oracle.world.came + 2));
        }
        return stored.get(random.nextInt(stored.size()));
    }

    /** Makes a call on both, if the archive may still be called. */
    private void both(String name, int... a) {
        if (archive.callsLeft() == 0) {
            return;
        }
        String call = name + Arrays.toString(a);
        past.add(call);
        int got = onArchive(name, a);
        int want = oracle.call(name, a);
        check.due(call, got, want);
        edges.add(name + " " + want);
        noteEdges();
    }

    private void noteEdges() {
        note("24 files", oracle.world.papers.size() == 24);
        note("200 files came", oracle.world.came == 200);
        note("no more room for pages", oracle.world.pages() == oracle.world.settings[6]);
        note("8 reservations", oracle.world.reservations.size() == 8);
        note("12 traces", oracle.world.traces.size() == 12);
        note("a text of 60", oracle.lengthOfText() == 60);
        note("4 states", oracle.statesHeld() == 4);
        note("the day 9999", oracle.world.day == 9999);
    }

    private void note(String edge, boolean isThere) {
        if (isThere) {
            edges.add(edge);
        }
    }

    private int onArchive(String name, int[] a) {
        switch (name) {
            case "add": return archive.add(a[0], a[1]);
            case "ask": return archive.ask(a[0]);
            case "seal": return archive.seal(a[0], a[1], a[2]);
            case "lift": return archive.lift(a[0], a[1]);
            case "refer": return archive.refer(a[0], a[1]);
            case "reserve": return archive.reserve(a[0], a[1]);
            case "cancel": return archive.cancel(a[0], a[1]);
            case "pass": return archive.pass(a[0]);
            case "set": return archive.set(a[0], a[1]);
            case "append": return archive.append(a[0]);
            case "clearText": return archive.clearText();
            case "fault": return archive.fault();
            case "run": return archive.run();
            case "why": return archive.why(a[0]);
            case "undo": return archive.undo();
            case "now": return archive.now();
            case "count": return archive.count(a[0]);
            case "fileAt": return archive.fileAt(a[0]);
            case "file": return archive.file(a[0], a[1]);
            case "sealOf": return archive.sealOf(a[0], a[1]);
            case "trace": return archive.trace(a[0], a[1]);
            case "reservation": return archive.reservation(a[0], a[1]);
            case "setting": return archive.setting(a[0]);
            case "stays": return archive.stays(a[0]);
            case "keeper": return archive.keeper(a[0]);
            case "burntIn": return archive.burntIn(a[0]);
            case "ifPassed": return archive.ifPassed(a[0], a[1]);
            default: throw new IllegalArgumentException(name);
        }
    }
}
