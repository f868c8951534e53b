import java.util.Arrays;
import java.util.Random;

/** Long runs of calls, ordinary and wrong ones, each answer held against that of YearByYear. */
public final class ModelTest {
    private static final Due due = new Due();
    private static final String[] CALLS = {
        "say", "wipe", "name", "split", "merge", "shift", "undo", "event", "at", "sites", "letter", "sound",
        "parish", "find", "called", "off", "span", "heirs", "image", "restore", "count",
    };
    private static final int RUNS = 400, CALLS_OF_A_RUN = 512;
    private static final int[] EDGES = {
        Integer.MIN_VALUE, -7, -6, -2, -1, 0, 1, 2, 3, 5, 7, 8, 9, 11, 12, 13, 14, 15, 16, 30, 31, 32, 96, 97,
        122, 123, 998, 999, 1000, 4095, 4096, Integer.MAX_VALUE,
    };

    private final Random random;
    private final ParishNames x = new ParishNames();
    private final YearByYear model = new YearByYear();
    /** Few years and few letters let events meet in a year, and names be alike. */
    private final int years;
    private final int letters;

    private ModelTest(long seed) {
        random = new Random(seed);
        years = new int[] {1, 4, 40, 1000}[random.nextInt(4)];
        letters = new int[] {2, 5, 26}[random.nextInt(3)];
    }

    public static void main(String[] args) {
        int[] answered = new int[CALLS.length];
        for (int run = 0; run < RUNS; run++) new ModelTest(run).play(run, answered);
        for (int i = 0; i < CALLS.length; i++) {
            due.is("some calls of " + CALLS[i] + " are not refused", answered[i] > RUNS ? 1 : 0, 1);
        }
        due.end("ModelTest");
    }

    private void play(int run, int[] answered) {
        int undos = random.nextInt(12);
        for (int i = 0; i < CALLS_OF_A_RUN; i++) {
            int which = random.nextInt(5) == 0 ? 0 : random.nextInt(CALLS.length);
            if (random.nextInt(4) == 0) which = 2 + random.nextInt(4);
            boolean goesBack = CALLS[which].equals("undo") || CALLS[which].equals("restore");
            if (goesBack && random.nextInt(12) >= undos) which = 0;
            String call = CALLS[which];
            int[] a = arguments(call);
            if (random.nextInt(12) == 0 && a.length > 0) a[random.nextInt(a.length)] = EDGES[random.nextInt(EDGES.length)];
            int got = answer(call, a), want = model.answer(call, a);
            due.is("run " + run + ", call " + i + ": " + call + Arrays.toString(a), got, want);
            if (got >= 0) answered[which]++;
        }
    }

    private int upTo(int below) {
        return random.nextInt(below);
    }

    private int aYear() {
        return years == 1000 ? upTo(1000) : Math.min(999, upTo(years) * (1000 / years) + upTo(2));
    }

    /** A year not below that of the last event, more often than not close behind it. */
    private int aLaterYear() {
        int last = model.answer("count", new int[] {3});
        if (upTo(10) == 0) return aYear();
        return Math.min(999, last + (upTo(3) == 0 ? upTo(Math.max(2, years / 20)) : 0));
    }

    private int aParish() {
        return upTo(Math.min(16, model.answer("count", new int[] {1}) + (upTo(10) == 0 ? 1 : 0)));
    }

    private int someSitesOf(int parish) {
        int has = model.answer("sites", new int[] {parish, 999});
        return upTo(10) == 0 ? upTo(4096) : Math.max(has, 0) & (upTo(2) == 0 ? upTo(4096) : 1 << upTo(12));
    }

    private int[] arguments(String call) {
        int parish = aParish(), site = upTo(12), from = aYear(), to = aYear();
        if (to < from && upTo(10) != 0) to = from + upTo(1000 - from);
        switch (call) {
            case "say": return new int[] {97 + upTo(letters)};
            case "name": return new int[] {parish, aLaterYear()};
            case "split": return new int[] {parish, someSitesOf(parish), aLaterYear()};
            case "merge": return new int[] {parish, aParish(), aLaterYear()};
            case "shift": return new int[] {parish, someSitesOf(parish), aParish(), aLaterYear()};
            case "event": return new int[] {upTo(30), upTo(5)};
            case "at": return new int[] {site, aYear()};
            case "sites": return new int[] {parish, aYear()};
            case "letter": return new int[] {parish, aYear(), upTo(9) - 1};
            case "sound": return new int[] {parish, aYear(), upTo(6) - 1};
            case "parish": return new int[] {parish, upTo(5)};
            case "find": return new int[] {from, to, upTo(3), upTo(5) - 1};
            case "called": return new int[] {site, from, to, upTo(3), upTo(3)};
            case "off": return new int[] {parish, aYear()};
            case "span": return new int[] {site, upTo(12) - 1, upTo(3)};
            case "heirs": return new int[] {parish, aYear(), aYear()};
            case "image": return new int[] {upTo(2)};
            case "restore": return new int[] {upTo(2)};
            case "count": return new int[] {upTo(14)};
            default: return new int[0];
        }
    }

    private int answer(String call, int[] a) {
        switch (call) {
            case "say": return x.say(a[0]);
            case "wipe": return x.wipe();
            case "name": return x.name(a[0], a[1]);
            case "split": return x.split(a[0], a[1], a[2]);
            case "merge": return x.merge(a[0], a[1], a[2]);
            case "shift": return x.shift(a[0], a[1], a[2], a[3]);
            case "undo": return x.undo();
            case "event": return x.event(a[0], a[1]);
            case "at": return x.at(a[0], a[1]);
            case "sites": return x.sites(a[0], a[1]);
            case "letter": return x.letter(a[0], a[1], a[2]);
            case "sound": return x.sound(a[0], a[1], a[2]);
            case "parish": return x.parish(a[0], a[1]);
            case "find": return x.find(a[0], a[1], a[2], a[3]);
            case "called": return x.called(a[0], a[1], a[2], a[3], a[4]);
            case "off": return x.off(a[0], a[1]);
            case "span": return x.span(a[0], a[1], a[2]);
            case "heirs": return x.heirs(a[0], a[1], a[2]);
            case "image": return x.image(a[0]);
            case "restore": return x.restore(a[0]);
            case "count": return x.count(a[0]);
            default: throw new IllegalArgumentException(call);
        }
    }
}
