import java.util.ArrayList;
import java.util.List;
import java.util.function.Consumer;
import java.util.function.IntUnaryOperator;
import java.util.function.ToIntFunction;

/**
 * Tests of one sentence of the document each: a test quotes the words that it holds the class to,
 * and has an object of its own. DocumentTest sees to it that no words are left without a test.
 */
abstract class Sentences {
    /** Written out, so that a wrong constant of the class is seen. */
    static final int UNKNOWN = -1, OUTSIDE = -2, STATE = -3, FULL = -4, NO = -5, NONE = -6, FAULT = -7;
    static final int LEAST = Integer.MIN_VALUE, MOST = Integer.MAX_VALUE;
    /** What stands under "What it is" and under "Terms", where a promise's number is asked for. */
    static final int WHAT_IT_IS = -1, TERMS = 0;

    record Quote(int promise, String words) {
        @Override
        public String toString() {
            return (promise == TERMS ? "Terms" : promise == WHAT_IT_IS ? "What it is" : "Promise " + promise) + ", \"" + words + "\"";
        }
    }

    static final List<Quote> quotes = new ArrayList<>();
    private static final Due due = new Due();
    private static String about = "";

    static void test(int promise, String words, Consumer<ParishNames> body) {
        test(promise, words, "", body);
    }

    static void test(int promise, String words, String more, Consumer<ParishNames> body) {
        Quote quote = new Quote(promise, words);
        quotes.add(quote);
        about = quote + (more.isEmpty() ? "" : ", " + more) + ": ";
        int before = due.asked();
        try {
            body.accept(new ParishNames());
        } catch (RuntimeException thrown) {
            is(thrown + " was thrown", 1, 0);
        }
        if (due.asked() == before) is("the test asks nothing", 1, 0);
    }

    static void is(String call, long got, long want) {
        due.is(about + call, got, want);
    }

    static void is(String call, boolean holds) {
        is(call, holds ? 1 : 0, 1);
    }

    /** The same answer for each of the numbers, which stands in the call's text where _ does. */
    static void each(String call, int want, IntUnaryOperator made, int... numbers) {
        for (int number : numbers) is(call.replace("_", String.valueOf(number)), made.applyAsInt(number), want);
    }

    static void end(String name) {
        due.end(name + ": " + quotes.size() + " tests");
    }

    static void say(ParishNames x, String letters) {
        for (int k = 0; k < letters.length(); k++) x.say(letters.charAt(k));
    }

    /** The pad holds these letters and no others. */
    static void write(ParishNames x, String letters) {
        x.wipe();
        say(x, letters);
    }

    static int named(ParishNames x, int parish, String name, int year) {
        write(x, name);
        return x.name(parish, year);
    }

    static int split(ParishNames x, int parish, int set, String name, int year) {
        write(x, name);
        return x.split(parish, set, year);
    }

    /** Until there are so many events, a parish is named. */
    static void fill(ParishNames x, int parish, int year, int events) {
        for (int told = x.count(0); told < events; told++) {
            x.say('c');
            x.name(parish, year);
        }
    }

    /** 30 events, the last of year 7; parishes 0 (all sites but 1) and 2 (site 1) are there, 1 is not. */
    static void thirtyEvents(ParishNames x) {
        split(x, 0, 1, "b", 5);
        x.merge(1, 0, 6);
        split(x, 0, 2, "c", 7);
        fill(x, 0, 7, 30);
    }

    /** 16 parishes by 20 events, the last of year 3: 0 (sites 0, 2), 3 to 11 (the site of that number), 15 (site 1). */
    static void sixteenParishes(ParishNames x) {
        for (int parish = 1; parish < 12; parish++) split(x, 0, 1 << parish, "b", 1);
        for (int parish = 12; parish < 16; parish++) {
            x.merge(parish == 12 ? 1 : parish - 1, 0, 2);
            split(x, 0, 2, "c", 2);
        }
        x.merge(2, 0, 3);
    }

    /** A parish, 1, that comes and goes in one year, and so is there in no year. */
    static void parishOfNoYear(ParishNames x, int year) {
        split(x, 0, 1, "b", year);
        x.merge(1, 0, year);
    }

    /** The name of a parish in a year as text, read letter by letter; "" if it is not there. */
    static String nameOf(ParishNames x, int parish, int year) {
        StringBuilder text = new StringBuilder();
        int length = x.letter(parish, year, -1);
        for (int k = 0; k < length; k++) text.append((char) x.letter(parish, year, k));
        return text.toString();
    }

    static void isNamed(ParishNames x, int parish, int year, String want) {
        String got = nameOf(x, parish, year);
        is("the name of " + parish + " in " + year + " is " + got + ", due is " + want + ": that it is the same", got.equals(want));
    }

    /** The name heard, class by class, as digits. */
    static void isHeard(String name, String classes) {
        ParishNames x = new ParishNames();
        named(x, 0, name, 0);
        is("how many classes " + name + " has", x.sound(0, 0, -1), classes.length());
        for (int k = 0; k < classes.length(); k++) {
            is("class " + k + " of " + name, x.sound(0, 0, k), classes.charAt(k) - '0');
        }
        is("the class behind the last of " + name, x.sound(0, 0, classes.length()), NONE);
    }

    static void isOff(String one, String other, int want) {
        ParishNames x = new ParishNames();
        named(x, 0, one, 0);
        write(x, other);
        is("off of " + one + " and " + other, x.off(0, 0), want);
        named(x, 0, other, 0);
        write(x, one);
        is("off of " + other + " and " + one, x.off(0, 0), want);
    }

    /** Each span's first year, last year and parish. */
    static void spansAre(ParishNames x, int site, int[]... want) {
        for (int what = 0; what < 3; what++) {
            is("span(" + site + ", -1, " + what + ")", x.span(site, -1, what), want.length);
            for (int i = 0; i < want.length; i++) {
                is("span(" + site + ", " + i + ", " + what + ")", x.span(site, i, what), want[i][what]);
            }
            is("span(" + site + ", " + want.length + ", " + what + ")", x.span(site, want.length, what), NONE);
        }
    }

    static int[] span(int first, int last, int parish) {
        return new int[] {first, last, parish};
    }

    static void finds(ParishNames x, int from, int to, int how, int... parishes) {
        String call = "find(" + from + ", " + to + ", " + how + ", ";
        is(call + "-1)", x.find(from, to, how, -1), parishes.length);
        for (int i = 0; i < parishes.length; i++) is(call + i + ")", x.find(from, to, how, i), parishes[i]);
        is(call + parishes.length + ")", x.find(from, to, how, parishes.length), NONE);
    }

    /** In how many years, the first, the last. */
    static void isCalled(ParishNames x, int site, int from, int to, int how, int... want) {
        for (int what = 0; what < 3; what++) {
            String call = "called(" + site + ", " + from + ", " + to + ", " + how + ", " + what + ")";
            is(call, x.called(site, from, to, how, what), want[what]);
        }
    }

    /** Two objects come about alike, the call is made on one of them: all that can be asked of both is the same. */
    static void leavesAll(String call, int want, Consumer<ParishNames> before, ToIntFunction<ParishNames> made) {
        ParishNames x = new ParishNames(), y = new ParishNames();
        before.accept(x);
        before.accept(y);
        is(call, made.applyAsInt(x), want);
        is("all is as it was behind " + call, everything(x).equals(everything(y)));
    }

    /** All that can be asked, in few enough calls that an object stays below 512; uses up the pad. */
    private static List<Integer> everything(ParishNames x) {
        List<Integer> all = new ArrayList<>();
        addChronicle(x, all);
        all.add(x.count(2));
        all.add(x.count(6));
        addPad(x, all);
        for (int k = 0; k < 2; k++) {
            int restored = x.restore(k);
            all.add(restored);
            if (restored == 1) addChronicle(x, all);
        }
        return all;
    }

    private static void addChronicle(ParishNames x, List<Integer> all) {
        int events = x.count(0), parishes = x.count(1);
        all.add(events);
        all.add(parishes);
        for (int what : new int[] {3, 4, 5, 10, 11, 12, 13}) all.add(x.count(what));
        for (int i = 0; i < events; i++) addEvent(x, i, all);
        for (int parish = 0; parish < parishes; parish++) all.add(x.sites(parish, 999));
    }

    private static void addEvent(ParishNames x, int i, List<Integer> all) {
        int[] facts = new int[5];
        for (int what = 0; what < 5; what++) {
            facts[what] = x.event(i, what);
            all.add(facts[what]);
        }
        if (facts[0] == 0) addName(x, facts[2], facts[1], all);
        if (facts[0] == 1) addName(x, facts[4], facts[1], all);
    }

    private static void addName(ParishNames x, int parish, int year, List<Integer> all) {
        for (char letter : nameOf(x, parish, year).toCharArray()) all.add((int) letter);
    }

    private static void addPad(ParishNames x, List<Integer> all) {
        if (x.count(0) == 30) x.undo();
        for (int parish = 0; parish < 16; parish++) {
            if (x.name(parish, 999) < 0) continue;
            addName(x, parish, 999, all);
            return;
        }
    }
}
