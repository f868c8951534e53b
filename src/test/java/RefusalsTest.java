import java.util.function.Consumer;
import java.util.function.ToIntFunction;

/** In which order refusals are answered, that NONE comes behind them, and that they change nothing. */
public final class RefusalsTest extends Sentences {
    private static final String ORDER =
        "Calls that are refused answer the first that fits, in the order in which they are told with the call";
    private static final String NONE_LAST = "NONE -6 is answered only where no refusal fits";
    private static final String UNCHANGED = "What is refused changes nothing";
    private static final String ASKED = "All that is told is as things are when it is asked";

    public static void main(String[] args) {
        all();
        end("RefusalsTest");
    }

    static void all() {
        answers();
        orderOfEvents();
        orderOfOthers();
        noneLast();
        unchangedByEvents();
        unchangedByOthers();
        unchangedByAsking();
    }

    private static void answers() {
        test(TERMS, "UNKNOWN -1 (no such PARISH, SITE)", x -> {
            is("sites(1, 0)", x.sites(1, 0), -1);
            is("at(12, 0)", x.at(12, 0), -1);
        });
        test(TERMS, "OUTSIDE -2 (another number is not as told)", x -> is("at(0, 1000)", x.at(0, 1000), -2));
        test(TERMS, "FAULT -7 (THE PAD is no NAME)", x -> is("name(0, 0)", x.name(0, 0), -7));
        test(TERMS, "STATE -3, NO -5, FULL -4 (as told with the call)", x -> {
            thirtyEvents(x);
            x.say(98);
            is("name(0, 6)", x.name(0, 6), -3);
            is("name(1, 7)", x.name(1, 7), -5);
            is("name(0, 7)", x.name(0, 7), -4);
        });
    }

    /** From row to row one refusal less fits; all those told behind the one answered do. */
    private static void orderOfEvents() {
        test(TERMS, ORDER, "say", x -> {
            say(x, "bbbbbbbb");
            is("say(96)", x.say(96), OUTSIDE);
            is("say(97)", x.say(97), FULL);
        });
        test(TERMS, ORDER, "name", x -> {
            thirtyEvents(x);
            is("name(3, 1000)", x.name(3, 1000), UNKNOWN);
            is("name(1, 1000)", x.name(1, 1000), OUTSIDE);
            is("name(1, -1)", x.name(1, -1), OUTSIDE);
            is("name(1, 6)", x.name(1, 6), FAULT);
            x.say(98);
            is("name(1, 6) with a name", x.name(1, 6), STATE);
            is("name(1, 7)", x.name(1, 7), NO);
            is("name(0, 7)", x.name(0, 7), FULL);
            x.undo();
            is("name(0, 7) with room", x.name(0, 7), 29);
        });
        test(TERMS, ORDER, "split", x -> {
            thirtyEvents(x);
            is("split(3, -1, 1000)", x.split(3, -1, 1000), UNKNOWN);
            is("split(1, -1, 1000)", x.split(1, -1, 1000), OUTSIDE);
            is("split(1, 4096, 6)", x.split(1, 4096, 6), OUTSIDE);
            is("split(1, 0, 1000)", x.split(1, 0, 1000), OUTSIDE);
            is("split(1, 0, -1)", x.split(1, 0, -1), OUTSIDE);
            is("split(1, 0, 6)", x.split(1, 0, 6), FAULT);
            x.say(98);
            is("split(1, 0, 6) with a name", x.split(1, 0, 6), STATE);
            is("split(1, 0, 7)", x.split(1, 0, 7), NO);
            is("split(0, 4, 7)", x.split(0, 4, 7), FULL);
            x.undo();
            is("split(0, 4, 7) with room", x.split(0, 4, 7), 3);
        });
        test(TERMS, ORDER, "split, 16 parishes", x -> {
            sixteenParishes(x);
            is("split(16, 4096, 3)", x.split(16, 4096, 3), UNKNOWN);
            is("split(0, 4096, 2)", x.split(0, 4096, 2), OUTSIDE);
            is("split(0, 2, 2)", x.split(0, 2, 2), FAULT);
            x.say(98);
            is("split(0, 2, 2) with a name", x.split(0, 2, 2), STATE);
            is("split(0, 2, 3)", x.split(0, 2, 3), NO);
            is("split(0, 4, 3)", x.split(0, 4, 3), FULL);
        });
        test(TERMS, ORDER, "merge", x -> {
            thirtyEvents(x);
            is("merge(3, 3, 1000)", x.merge(3, 3, 1000), UNKNOWN);
            is("merge(1, 3, 1000)", x.merge(1, 3, 1000), UNKNOWN);
            is("merge(3, 1, 1000)", x.merge(3, 1, 1000), UNKNOWN);
            is("merge(1, 1, 6)", x.merge(1, 1, 6), OUTSIDE);
            is("merge(1, 2, 1000)", x.merge(1, 2, 1000), OUTSIDE);
            is("merge(1, 2, -1)", x.merge(1, 2, -1), OUTSIDE);
            is("merge(1, 2, 6)", x.merge(1, 2, 6), STATE);
            is("merge(1, 2, 7)", x.merge(1, 2, 7), NO);
            is("merge(2, 1, 7)", x.merge(2, 1, 7), NO);
            is("merge(2, 0, 7)", x.merge(2, 0, 7), FULL);
            x.undo();
            is("merge(2, 0, 7) with room", x.merge(2, 0, 7), 29);
        });
        test(TERMS, ORDER, "shift", x -> {
            thirtyEvents(x);
            is("shift(3, -1, 3, 1000)", x.shift(3, -1, 3, 1000), UNKNOWN);
            is("shift(1, -1, 3, 1000)", x.shift(1, -1, 3, 1000), UNKNOWN);
            is("shift(3, -1, 1, 1000)", x.shift(3, -1, 1, 1000), UNKNOWN);
            is("shift(1, 0, 1, 6)", x.shift(1, 0, 1, 6), OUTSIDE);
            is("shift(0, -1, 1, 6)", x.shift(0, -1, 1, 6), OUTSIDE);
            is("shift(0, 0, 1, 1000)", x.shift(0, 0, 1, 1000), OUTSIDE);
            is("shift(0, 0, 1, -1)", x.shift(0, 0, 1, -1), OUTSIDE);
            is("shift(0, 0, 1, 6)", x.shift(0, 0, 1, 6), STATE);
            is("shift(0, 4, 1, 7)", x.shift(0, 4, 1, 7), NO);
            is("shift(0, 0, 2, 7)", x.shift(0, 0, 2, 7), NO);
            is("shift(0, 4, 2, 7)", x.shift(0, 4, 2, 7), FULL);
            x.undo();
            is("shift(0, 4, 2, 7) with room", x.shift(0, 4, 2, 7), 29);
        });
    }

    private static void orderOfOthers() {
        test(TERMS, ORDER, "at", x -> {
            is("at(12, 1000)", x.at(12, 1000), UNKNOWN);
            is("at(11, 1000)", x.at(11, 1000), OUTSIDE);
        });
        test(TERMS, ORDER, "sites", x -> {
            is("sites(1, 1000)", x.sites(1, 1000), UNKNOWN);
            is("sites(0, 1000)", x.sites(0, 1000), OUTSIDE);
        });
        test(TERMS, ORDER, "letter", x -> {
            is("letter(1, 1000, -2)", x.letter(1, 1000, -2), UNKNOWN);
            is("letter(0, 1000, -2)", x.letter(0, 1000, -2), OUTSIDE);
        });
        test(TERMS, ORDER, "sound", x -> {
            is("sound(1, 1000, -2)", x.sound(1, 1000, -2), UNKNOWN);
            is("sound(0, 1000, -2)", x.sound(0, 1000, -2), OUTSIDE);
        });
        test(TERMS, ORDER, "parish", x -> {
            is("parish(1, 5)", x.parish(1, 5), UNKNOWN);
            is("parish(0, 5)", x.parish(0, 5), OUTSIDE);
        });
        test(TERMS, ORDER, "find", x -> {
            is("find(0, 1000, 3, -2)", x.find(0, 1000, 3, -2), OUTSIDE);
            is("find(5, 4, 0, -1)", x.find(5, 4, 0, -1), OUTSIDE);
            is("find(0, 999, 3, -1)", x.find(0, 999, 3, -1), OUTSIDE);
            is("find(0, 999, 0, -2)", x.find(0, 999, 0, -2), OUTSIDE);
            is("find(0, 999, 0, -1)", x.find(0, 999, 0, -1), FAULT);
        });
        test(TERMS, ORDER, "called", x -> {
            is("called(12, 0, 1000, 3, 3)", x.called(12, 0, 1000, 3, 3), UNKNOWN);
            is("called(0, 0, 1000, 0, 0)", x.called(0, 0, 1000, 0, 0), OUTSIDE);
            is("called(0, 5, 4, 0, 0)", x.called(0, 5, 4, 0, 0), OUTSIDE);
            is("called(0, 0, 999, 3, 0)", x.called(0, 0, 999, 3, 0), OUTSIDE);
            is("called(0, 0, 999, 0, 3)", x.called(0, 0, 999, 0, 3), OUTSIDE);
            is("called(0, 0, 999, 0, 0)", x.called(0, 0, 999, 0, 0), FAULT);
        });
        test(TERMS, ORDER, "off", x -> {
            is("off(1, 1000)", x.off(1, 1000), UNKNOWN);
            is("off(0, 1000)", x.off(0, 1000), OUTSIDE);
            is("off(0, 999)", x.off(0, 999), FAULT);
        });
        test(TERMS, ORDER, "span", x -> {
            is("span(12, -2, 3)", x.span(12, -2, 3), UNKNOWN);
            is("span(0, -2, 3)", x.span(0, -2, 3), OUTSIDE);
        });
        test(TERMS, ORDER, "heirs", x -> {
            is("heirs(1, 1000, -1)", x.heirs(1, 1000, -1), UNKNOWN);
            is("heirs(0, 1000, -1)", x.heirs(0, 1000, -1), OUTSIDE);
        });
        test(TERMS, ORDER, "restore", x -> {
            is("restore(2)", x.restore(2), OUTSIDE);
            is("restore(1)", x.restore(1), STATE);
        });
    }

    private static void noneLast() {
        test(TERMS, NONE_LAST, "event", x -> {
            is("event(0, 5)", x.event(0, 5), OUTSIDE);
            is("event(-1, -1)", x.event(-1, -1), OUTSIDE);
            is("event(0, 4)", x.event(0, 4), NONE);
        });
        test(TERMS, NONE_LAST, "letter", x -> {
            split(x, 0, 1, "b", 10);
            is("letter(2, 9, 0)", x.letter(2, 9, 0), UNKNOWN);
            is("letter(1, 9, -2)", x.letter(1, 9, -2), OUTSIDE);
            is("letter(1, 9, -1)", x.letter(1, 9, -1), NONE);
        });
        test(TERMS, NONE_LAST, "sound", x -> {
            split(x, 0, 1, "b", 10);
            is("sound(2, 9, 0)", x.sound(2, 9, 0), UNKNOWN);
            is("sound(1, 9, -2)", x.sound(1, 9, -2), OUTSIDE);
            is("sound(1, 9, -1)", x.sound(1, 9, -1), NONE);
        });
        test(TERMS, NONE_LAST, "parish", x -> {
            parishOfNoYear(x, 10);
            is("parish(2, 0)", x.parish(2, 0), UNKNOWN);
            is("parish(1, 5)", x.parish(1, 5), OUTSIDE);
            is("parish(1, -1)", x.parish(1, -1), OUTSIDE);
            is("parish(1, 0)", x.parish(1, 0), NONE);
        });
        test(TERMS, NONE_LAST, "find", x -> {
            is("find(5, 4, 0, 0)", x.find(5, 4, 0, 0), OUTSIDE);
            is("find(4, 5, 0, 0)", x.find(4, 5, 0, 0), FAULT);
            x.say(98);
            is("find(4, 5, 0, 0) of b", x.find(4, 5, 0, 0), NONE);
        });
        test(TERMS, NONE_LAST, "called", x -> {
            is("called(0, 5, 4, 0, 1)", x.called(0, 5, 4, 0, 1), OUTSIDE);
            is("called(0, 4, 5, 0, 1)", x.called(0, 4, 5, 0, 1), FAULT);
            x.say(98);
            is("called(12, 4, 5, 0, 1)", x.called(12, 4, 5, 0, 1), UNKNOWN);
            is("called(0, 4, 5, 0, 1) of b", x.called(0, 4, 5, 0, 1), NONE);
        });
        test(TERMS, NONE_LAST, "off", x -> {
            split(x, 0, 1, "b", 10);
            is("off(1, 9)", x.off(1, 9), FAULT);
            x.say(98);
            is("off(1, 9) of b", x.off(1, 9), NONE);
        });
        test(TERMS, NONE_LAST, "span", x -> {
            is("span(12, 1, 0)", x.span(12, 1, 0), UNKNOWN);
            is("span(0, 1, 3)", x.span(0, 1, 3), OUTSIDE);
            is("span(0, 1, 2)", x.span(0, 1, 2), NONE);
        });
    }

    /** Parishes 0 and 1 (sites 0 to 2) are there, 2 is not; the last event is of year 40; image 0 is kept. */
    private static void some(ParishNames x) {
        split(x, 0, 7, "b", 10);
        split(x, 0, 8, "cd", 20);
        x.image(0);
        x.merge(2, 0, 30);
        named(x, 1, "e", 40);
        say(x, "xy");
    }

    private static void someWithoutPad(ParishNames x) {
        some(x);
        x.wipe();
    }

    private static void someWithFullPad(ParishNames x) {
        some(x);
        say(x, "zzzzzz");
    }

    private static void thirtyAndPad(ParishNames x) {
        thirtyEvents(x);
        say(x, "xy");
    }

    private static void sixteenAndPad(ParishNames x) {
        sixteenParishes(x);
        say(x, "xy");
    }

    private static void unchanged(String call, int want, ToIntFunction<ParishNames> made) {
        unchanged(call, want, RefusalsTest::some, made);
    }

    private static void unchanged(String call, int want, Consumer<ParishNames> before, ToIntFunction<ParishNames> made) {
        test(TERMS, UNCHANGED, call, x -> leavesAll(call, want, before, made));
    }

    private static void unchangedByEvents() {
        unchanged("say(96)", OUTSIDE, x -> x.say(96));
        unchanged("say(123)", OUTSIDE, x -> x.say(123));
        unchanged("say(97) with 8", FULL, RefusalsTest::someWithFullPad, x -> x.say(97));
        unchanged("name(3, 40)", UNKNOWN, x -> x.name(3, 40));
        unchanged("name(1, 1000)", OUTSIDE, x -> x.name(1, 1000));
        unchanged("name(1, 40) without a name", FAULT, RefusalsTest::someWithoutPad, x -> x.name(1, 40));
        unchanged("name(1, 39)", STATE, x -> x.name(1, 39));
        unchanged("name(2, 40)", NO, x -> x.name(2, 40));
        unchanged("name(0, 7) with 30", FULL, RefusalsTest::thirtyAndPad, x -> x.name(0, 7));
        unchanged("split(3, 1, 40)", UNKNOWN, x -> x.split(3, 1, 40));
        unchanged("split(1, 4096, 40)", OUTSIDE, x -> x.split(1, 4096, 40));
        unchanged("split(1, 1, 1000)", OUTSIDE, x -> x.split(1, 1, 1000));
        unchanged("split(1, 1, 40) without a name", FAULT, RefusalsTest::someWithoutPad, x -> x.split(1, 1, 40));
        unchanged("split(1, 1, 39)", STATE, x -> x.split(1, 1, 39));
        unchanged("split(1, 0, 40)", NO, x -> x.split(1, 0, 40));
        unchanged("split(1, 9, 40)", NO, x -> x.split(1, 9, 40));
        unchanged("split(1, 7, 40)", NO, x -> x.split(1, 7, 40));
        unchanged("split(0, 4, 7) with 30 events", FULL, RefusalsTest::thirtyAndPad, x -> x.split(0, 4, 7));
        unchanged("split(0, 4, 3) with 16 parishes", FULL, RefusalsTest::sixteenAndPad, x -> x.split(0, 4, 3));
        unchanged("merge(3, 0, 40)", UNKNOWN, x -> x.merge(3, 0, 40));
        unchanged("merge(0, 3, 40)", UNKNOWN, x -> x.merge(0, 3, 40));
        unchanged("merge(1, 1, 40)", OUTSIDE, x -> x.merge(1, 1, 40));
        unchanged("merge(1, 0, 1000)", OUTSIDE, x -> x.merge(1, 0, 1000));
        unchanged("merge(1, 0, 39)", STATE, x -> x.merge(1, 0, 39));
        unchanged("merge(2, 0, 40)", NO, x -> x.merge(2, 0, 40));
        unchanged("merge(0, 2, 40)", NO, x -> x.merge(0, 2, 40));
        unchanged("merge(2, 0, 7) with 30", FULL, RefusalsTest::thirtyAndPad, x -> x.merge(2, 0, 7));
        unchanged("shift(3, 1, 0, 40)", UNKNOWN, x -> x.shift(3, 1, 0, 40));
        unchanged("shift(1, 1, 3, 40)", UNKNOWN, x -> x.shift(1, 1, 3, 40));
        unchanged("shift(1, 1, 1, 40)", OUTSIDE, x -> x.shift(1, 1, 1, 40));
        unchanged("shift(1, 4096, 0, 40)", OUTSIDE, x -> x.shift(1, 4096, 0, 40));
        unchanged("shift(1, 1, 0, 1000)", OUTSIDE, x -> x.shift(1, 1, 0, 1000));
        unchanged("shift(1, 1, 0, 39)", STATE, x -> x.shift(1, 1, 0, 39));
        unchanged("shift(1, 1, 2, 40)", NO, x -> x.shift(1, 1, 2, 40));
        unchanged("shift(1, 0, 0, 40)", NO, x -> x.shift(1, 0, 0, 40));
        unchanged("shift(1, 9, 0, 40)", NO, x -> x.shift(1, 9, 0, 40));
        unchanged("shift(1, 7, 0, 40)", NO, x -> x.shift(1, 7, 0, 40));
        unchanged("shift(0, 4, 2, 7) with 30", FULL, RefusalsTest::thirtyAndPad, x -> x.shift(0, 4, 2, 7));
    }

    private static void unchangedByOthers() {
        unchanged("event(0, 5)", OUTSIDE, x -> x.event(0, 5));
        unchanged("at(12, 40)", UNKNOWN, x -> x.at(12, 40));
        unchanged("at(0, 1000)", OUTSIDE, x -> x.at(0, 1000));
        unchanged("sites(3, 40)", UNKNOWN, x -> x.sites(3, 40));
        unchanged("sites(0, 1000)", OUTSIDE, x -> x.sites(0, 1000));
        unchanged("letter(3, 40, 0)", UNKNOWN, x -> x.letter(3, 40, 0));
        unchanged("letter(0, 40, -2)", OUTSIDE, x -> x.letter(0, 40, -2));
        unchanged("sound(3, 40, 0)", UNKNOWN, x -> x.sound(3, 40, 0));
        unchanged("sound(0, 40, -2)", OUTSIDE, x -> x.sound(0, 40, -2));
        unchanged("parish(3, 0)", UNKNOWN, x -> x.parish(3, 0));
        unchanged("parish(0, 5)", OUTSIDE, x -> x.parish(0, 5));
        unchanged("find(5, 4, 0, 0)", OUTSIDE, x -> x.find(5, 4, 0, 0));
        unchanged("find(4, 5, 0, 0) without a name", FAULT, RefusalsTest::someWithoutPad, x -> x.find(4, 5, 0, 0));
        unchanged("called(12, 4, 5, 0, 0)", UNKNOWN, x -> x.called(12, 4, 5, 0, 0));
        unchanged("called(0, 5, 4, 0, 0)", OUTSIDE, x -> x.called(0, 5, 4, 0, 0));
        unchanged("called(0, 4, 5, 0, 0) without a name", FAULT, RefusalsTest::someWithoutPad, x -> x.called(0, 4, 5, 0, 0));
        unchanged("off(3, 40)", UNKNOWN, x -> x.off(3, 40));
        unchanged("off(0, 1000)", OUTSIDE, x -> x.off(0, 1000));
        unchanged("off(0, 40) without a name", FAULT, RefusalsTest::someWithoutPad, x -> x.off(0, 40));
        unchanged("span(12, 0, 0)", UNKNOWN, x -> x.span(12, 0, 0));
        unchanged("span(0, -2, 0)", OUTSIDE, x -> x.span(0, -2, 0));
        unchanged("heirs(3, 0, 0)", UNKNOWN, x -> x.heirs(3, 0, 0));
        unchanged("heirs(0, 0, 1000)", OUTSIDE, x -> x.heirs(0, 0, 1000));
        unchanged("image(-1)", OUTSIDE, x -> x.image(-1));
        unchanged("image(2)", OUTSIDE, x -> x.image(2));
        unchanged("image(32)", OUTSIDE, x -> x.image(32));
        unchanged("restore(2)", OUTSIDE, x -> x.restore(2));
        unchanged("restore(32)", OUTSIDE, x -> x.restore(32));
        unchanged("restore(1)", STATE, x -> x.restore(1));
        unchanged("count(7)", OUTSIDE, x -> x.count(7));
    }

    private static void asked(String call, int want, ToIntFunction<ParishNames> made) {
        test(TERMS, ASKED, call + " changes nothing", x -> leavesAll(call, want, RefusalsTest::some, made));
    }

    private static void unchangedByAsking() {
        asked("event(2, 3)", 8, x -> x.event(2, 3));
        asked("event(4, 0)", NONE, x -> x.event(4, 0));
        asked("at(3, 29)", 2, x -> x.at(3, 29));
        asked("sites(1, 10)", 7, x -> x.sites(1, 10));
        asked("letter(2, 29, 1)", 'd', x -> x.letter(2, 29, 1));
        asked("sound(2, 29, 1)", 3, x -> x.sound(2, 29, 1));
        asked("parish(2, 1)", 29, x -> x.parish(2, 1));
        asked("find(0, 999, 2, -1)", 0, x -> x.find(0, 999, 2, -1));
        asked("find(0, 999, 1, 0)", NONE, x -> x.find(0, 999, 1, 0));
        asked("called(0, 0, 999, 2, 0)", 0, x -> x.called(0, 0, 999, 2, 0));
        asked("off(1, 40)", 2, x -> x.off(1, 40));
        asked("span(3, -1, 0)", 3, x -> x.span(3, -1, 0));
        asked("heirs(0, 0, 20)", 7, x -> x.heirs(0, 0, 20));
        asked("count(6)", 1, x -> x.count(6));
        test(TERMS, ASKED, "undo() of nothing changes nothing", x ->
            leavesAll("undo()", NONE, y -> { y.image(1); y.say(98); }, ParishNames::undo));
    }
}
