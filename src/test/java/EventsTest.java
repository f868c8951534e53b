/** Promises 1 to 9: a new object, say, wipe, name, split, merge, shift, undo, event. */
public final class EventsTest extends Sentences {
    public static void main(String[] args) {
        all();
        end("EventsTest");
    }

    static void all() {
        newObject();
        say();
        wipe();
        name();
        nameRefused();
        split();
        splitRefused();
        merge();
        mergeRefused();
        shift();
        shiftRefused();
        undo();
        event();
    }

    private static void newObject() {
        test(1, "PARISH 0 has all SITES", x -> {
            is("sites(0, 0)", x.sites(0, 0), 4095);
            is("sites(0, 999)", x.sites(0, 999), 4095);
            for (int site = 0; site < 12; site++) is("at(" + site + ", 999)", x.at(site, 999), 0);
        });
        test(1, "THE PAD is empty", x -> {
            is("count(2)", x.count(2), 0);
            is("wipe()", x.wipe(), 0);
        });
        test(1, "no EVENT", x -> {
            is("count(0)", x.count(0), 0);
            is("event(0, 0)", x.event(0, 0), NONE);
            is("undo()", x.undo(), NONE);
        });
        test(1, "no IMAGE is kept", x -> {
            is("count(6)", x.count(6), 0);
            is("restore(0)", x.restore(0), STATE);
            is("restore(1)", x.restore(1), STATE);
        });
        test(1, "PARISH 0 has all SITES", "of two objects each its own", x -> {
            ParishNames y = new ParishNames();
            split(y, 0, 1, "b", 0);
            y.image(0);
            y.say(98);
            is("sites(0, 0)", x.sites(0, 0), 4095);
            is("count(1)", x.count(1), 1);
            is("count(2)", x.count(2), 0);
            is("count(6)", x.count(6), 0);
        });
    }

    private static void say() {
        test(2, "A letter more on THE PAD", x -> {
            x.say('e');
            x.say('l');
            x.say('y');
            x.name(0, 0);
            isNamed(x, 0, 0, "ely");
        });
        test(2, "how many there are", x -> {
            for (int k = 1; k <= 8; k++) is("say(98)", x.say(98), k);
        });
        test(2, "OUTSIDE: it is not 97 to 122", "too small", x -> {
            each("say(_)", OUTSIDE, x::say, 96, 65, 0, -1, LEAST, 97 - 256);
            is("count(2)", x.count(2), 0);
            is("say(97)", x.say(97), 1);
        });
        test(2, "OUTSIDE: it is not 97 to 122", "too large", x -> {
            each("say(_)", OUTSIDE, x::say, 123, 255, MOST, 97 + 256, 97 + 65536);
            is("count(2)", x.count(2), 0);
            is("say(122)", x.say(122), 1);
        });
        test(2, "FULL: there are 8", x -> {
            say(x, "abcdefg");
            is("the eighth", x.say('h'), 8);
            is("the ninth", x.say('i'), FULL);
            x.name(0, 0);
            isNamed(x, 0, 0, "abcdefgh");
        });
    }

    private static void wipe() {
        test(3, "THE PAD is empty", x -> {
            say(x, "abc");
            x.wipe();
            is("count(2)", x.count(2), 0);
            is("name(0, 0)", x.name(0, 0), FAULT);
        });
        test(3, "THE PAD is empty", "what is said then is all that is on it", x -> {
            say(x, "abcdefgh");
            x.wipe();
            is("say(122)", x.say(122), 1);
            x.name(0, 0);
            isNamed(x, 0, 0, "z");
        });
        test(3, "how many letters it had", "none", x -> is("wipe()", x.wipe(), 0));
        test(3, "how many letters it had", "one", x -> {
            x.say(98);
            is("wipe()", x.wipe(), 1);
        });
        test(3, "how many letters it had", "eight, then none", x -> {
            say(x, "abcdefgh");
            is("wipe()", x.wipe(), 8);
            is("wipe() again", x.wipe(), 0);
        });
    }

    private static void name() {
        test(4, "NAMED: what is on THE PAD", x -> {
            named(x, 0, "ely", 40);
            is("event(0, 0)", x.event(0, 0), 0);
            isNamed(x, 0, 40, "ely");
        });
        test(4, "which is empty then", x -> {
            named(x, 0, "ely", 40);
            is("count(2)", x.count(2), 0);
            is("name(0, 40)", x.name(0, 40), FAULT);
        });
        test(4, "is the NAME of a PARISH from a YEAR on", x -> {
            named(x, 0, "ely", 40);
            isNamed(x, 0, 39, "a");
            isNamed(x, 0, 40, "ely");
            isNamed(x, 0, 999, "ely");
        });
        test(4, "is the NAME of a PARISH from a YEAR on", "of that parish alone", x -> {
            split(x, 0, 1, "b", 10);
            named(x, 1, "ely", 40);
            isNamed(x, 0, 40, "a");
            isNamed(x, 1, 39, "b");
            isNamed(x, 1, 40, "ely");
        });
        test(4, "the number of the EVENT", "the first", x -> is("name", named(x, 0, "b", 0), 0));
        test(4, "the number of the EVENT", "the last", x -> {
            fill(x, 0, 5, 29);
            is("name", named(x, 0, "b", 5), 29);
        });
        test(4, "the number of the EVENT", "events of all kinds count", x -> {
            split(x, 0, 3, "b", 1);
            x.shift(1, 1, 0, 1);
            x.merge(1, 0, 1);
            is("name", named(x, 0, "c", 1), 3);
        });
    }

    private static void nameRefused() {
        test(4, "UNKNOWN: there is no such PARISH", x -> {
            x.say(98);
            each("name(_, 0)", UNKNOWN, parish -> x.name(parish, 0), -1, 1, 15, 16, 32, NONE, LEAST, MOST);
            is("name(0, 0)", x.name(0, 0), 0);
        });
        test(4, "UNKNOWN: there is no such PARISH", "it came by an event that was undone", x -> {
            split(x, 0, 1, "b", 0);
            x.undo();
            x.say(98);
            is("name(1, 0)", x.name(1, 0), UNKNOWN);
        });
        test(4, "OUTSIDE: the YEAR", x -> {
            x.say(98);
            each("name(0, _)", OUTSIDE, year -> x.name(0, year), -1, 1000, LEAST, MOST);
            is("name(0, 999)", x.name(0, 999), 0);
        });
        test(4, "FAULT", x -> {
            is("name(0, 0)", x.name(0, 0), FAULT);
            x.say(98);
            is("name(0, 0) with a name", x.name(0, 0), 0);
        });
        test(4, "STATE: the YEAR is less than that of the last EVENT", "one less, none less", x -> {
            named(x, 0, "b", 10);
            x.say(99);
            is("name(0, 9)", x.name(0, 9), STATE);
            is("name(0, 0)", x.name(0, 0), STATE);
            is("name(0, 10)", x.name(0, 10), 1);
        });
        test(4, "STATE: the YEAR is less than that of the last EVENT", "the last year", x -> {
            named(x, 0, "b", 999);
            x.say(99);
            is("name(0, 998)", x.name(0, 998), STATE);
            is("name(0, 999)", x.name(0, 999), 1);
        });
        test(4, "STATE: the YEAR is less than that of the last EVENT", "there is none", x -> is("name in 0", named(x, 0, "b", 0), 0));
        test(4, "STATE: the YEAR is less than that of the last EVENT", "of whatever parish and kind", x -> {
            split(x, 0, 3, "b", 10);
            x.shift(1, 1, 0, 20);
            x.say(99);
            is("name(0, 19)", x.name(0, 19), STATE);
            x.merge(1, 0, 30);
            is("name(0, 29)", x.name(0, 29), STATE);
            is("name(0, 30)", x.name(0, 30), 3);
        });
        test(4, "STATE: the YEAR is less than that of the last EVENT", "that of an event undone is none", x -> {
            named(x, 0, "b", 10);
            named(x, 0, "c", 20);
            x.undo();
            is("name in 10", named(x, 0, "d", 10), 1);
        });
        test(4, "NO: the PARISH IS NOT THERE behind all EVENTS", "it was merged", x -> {
            split(x, 0, 1, "b", 10);
            x.merge(1, 0, 20);
            is("name in 20", named(x, 1, "c", 20), NO);
            is("name in 999", named(x, 1, "c", 999), NO);
            is("the other", named(x, 0, "c", 999), 2);
        });
        test(4, "NO: the PARISH IS NOT THERE behind all EVENTS", "in the year of its coming", x -> {
            parishOfNoYear(x, 10);
            is("name in 10", named(x, 1, "c", 10), NO);
        });
        test(4, "NO: the PARISH IS NOT THERE behind all EVENTS", "the first parish", x -> {
            split(x, 0, 1, "b", 10);
            x.merge(0, 1, 10);
            is("name of 0", named(x, 0, "c", 10), NO);
            is("name of 1", named(x, 1, "c", 10), 2);
        });
        test(4, "FULL: there are 30", x -> {
            fill(x, 0, 5, 29);
            is("the 30th", named(x, 0, "b", 5), 29);
            is("the 31st", named(x, 0, "c", 5), FULL);
            is("count(0)", x.count(0), 30);
            isNamed(x, 0, 999, "b");
        });
        test(4, "FULL: there are 30", "room again behind undo", x -> {
            fill(x, 0, 5, 30);
            x.undo();
            is("the 30th", named(x, 0, "b", 5), 29);
        });
        test(4, "FULL: there are 30", "16 parishes are no matter", x -> {
            sixteenParishes(x);
            is("name", named(x, 0, "b", 3), 20);
        });
    }

    private static void split() {
        test(5, "SPLIT: a set of SITES of a PARISH is from a YEAR on a new PARISH", x -> {
            split(x, 0, 6, "bath", 7);
            is("sites(0, 6)", x.sites(0, 6), 4095);
            is("sites(0, 7)", x.sites(0, 7), 4095 - 6);
            is("sites(1, 6)", x.sites(1, 6), 0);
            is("sites(1, 7)", x.sites(1, 7), 6);
            is("sites(1, 999)", x.sites(1, 999), 6);
        });
        test(5, "SPLIT: a set of SITES of a PARISH is from a YEAR on a new PARISH", "of one that was split", x -> {
            split(x, 0, 6, "bath", 7);
            split(x, 1, 2, "b", 7);
            is("sites(0, 7)", x.sites(0, 7), 4095 - 6);
            is("sites(1, 7)", x.sites(1, 7), 4);
            is("sites(2, 7)", x.sites(2, 7), 2);
        });
        test(5, "whose NAME is what is on THE PAD", x -> {
            split(x, 0, 6, "bath", 7);
            isNamed(x, 1, 7, "bath");
            isNamed(x, 0, 7, "a");
        });
        test(5, "which is empty then", x -> {
            split(x, 0, 6, "bath", 7);
            is("count(2)", x.count(2), 0);
            is("split(0, 1, 7)", x.split(0, 1, 7), FAULT);
        });
        test(5, "the number of the new PARISH", "not of the event", x -> {
            named(x, 0, "b", 1);
            is("the first", split(x, 0, 1, "c", 1), 1);
            named(x, 0, "d", 1);
            is("the second", split(x, 0, 2, "e", 1), 2);
        });
        test(5, "the number of the new PARISH", "the last", x -> {
            sixteenParishes(x);
            x.undo();
            x.undo();
            is("the 16th", split(x, 0, 2, "c", 2), 15);
        });
    }

    private static void splitRefused() {
        test(5, "UNKNOWN", x -> {
            x.say(98);
            each("split(_, 1, 0)", UNKNOWN, parish -> x.split(parish, 1, 0), -1, 1, 15, 16, 32, NONE, LEAST, MOST);
            is("split(0, 1, 0)", x.split(0, 1, 0), 1);
        });
        test(5, "OUTSIDE: the set is none of SITES", x -> {
            x.say(98);
            each("split(0, _, 0)", OUTSIDE, set -> x.split(0, set, 0), 4096, 4097, 8191, -1, LEAST, LEAST + 1, MOST, 1 << 16 | 1);
            is("split(0, 2048, 0)", x.split(0, 2048, 0), 1);
        });
        test(5, "OUTSIDE: the set is none of SITES", "4095 and 0 are of sites", x -> {
            x.say(98);
            is("split(0, 4095, 0)", x.split(0, 4095, 0), NO);
            is("split(0, 0, 0)", x.split(0, 0, 0), NO);
        });
        test(5, "the YEAR", x -> {
            x.say(98);
            each("split(0, 1, _)", OUTSIDE, year -> x.split(0, 1, year), -1, 1000, LEAST, MOST);
            is("split(0, 1, 999)", x.split(0, 1, 999), 1);
        });
        test(5, "the YEAR", "the first one", x -> is("split in 0", split(x, 0, 1, "b", 0), 1));
        test(5, "FAULT", x -> {
            is("split(0, 1, 0)", x.split(0, 1, 0), FAULT);
            x.say(98);
            is("split(0, 1, 0) with a name", x.split(0, 1, 0), 1);
        });
        test(5, "STATE, as name()", x -> {
            split(x, 0, 1, "b", 10);
            x.say(99);
            is("split(0, 2, 9)", x.split(0, 2, 9), STATE);
            is("split(0, 2, 10)", x.split(0, 2, 10), 2);
        });
        test(5, "NO: the set is empty", x -> {
            x.say(98);
            is("split(0, 0, 0)", x.split(0, 0, 0), NO);
        });
        test(5, "has a SITE that the PARISH has not behind all EVENTS", "another's", x -> {
            split(x, 0, 1, "b", 10);
            x.say(99);
            is("its own and another's", x.split(0, 3, 10), NO);
            is("another's alone", x.split(0, 1, 10), NO);
            is("its own alone", x.split(0, 2, 10), 2);
        });
        test(5, "has a SITE that the PARISH has not behind all EVENTS", "all and one more", x -> {
            split(x, 0, 3, "b", 10);
            is("split(1, 7, 10)", split(x, 1, 7, "c", 10), NO);
        });
        test(5, "has a SITE that the PARISH has not behind all EVENTS", "that it had before", x -> {
            split(x, 0, 3, "b", 10);
            x.shift(1, 1, 0, 20);
            is("it has it no more", split(x, 1, 1, "c", 20), NO);
            is("the other has it again", split(x, 0, 1, "c", 20), 2);
        });
        test(5, "has a SITE that the PARISH has not behind all EVENTS", "it is not there", x -> {
            split(x, 0, 3, "b", 10);
            x.merge(1, 0, 20);
            is("split(1, 1, 20)", split(x, 1, 1, "c", 20), NO);
        });
        test(5, "or has all of its SITES", "all that there are", x -> is("split(0, 4095, 0)", split(x, 0, 4095, "b", 0), NO));
        test(5, "or has all of its SITES", "all but one", x -> is("split(0, 2047, 0)", split(x, 0, 2047, "b", 0), 1));
        test(5, "or has all of its SITES", "all of few", x -> {
            split(x, 0, 3, "b", 10);
            x.say(99);
            is("split(1, 3, 10)", x.split(1, 3, 10), NO);
            is("split(0, 4092, 10)", x.split(0, 4092, 10), NO);
            is("split(1, 2, 10)", x.split(1, 2, 10), 2);
            is("of one", split(x, 1, 1, "d", 10), NO);
        });
        test(5, "FULL: there are 30 EVENTS", x -> {
            fill(x, 0, 5, 30);
            is("split with 30", split(x, 0, 1, "b", 5), FULL);
            x.undo();
            is("split with 29", split(x, 0, 1, "b", 5), 1);
            is("count(0)", x.count(0), 30);
        });
        test(5, "or 16 PARISHES", x -> {
            sixteenParishes(x);
            is("split with 16", split(x, 0, 4, "d", 3), FULL);
            is("count(1)", x.count(1), 16);
        });
        test(5, "or 16 PARISHES", "room again behind undo", x -> {
            sixteenParishes(x);
            x.undo();
            x.undo();
            is("count(1)", x.count(1), 15);
            is("split with 15", split(x, 0, 2, "e", 3), 15);
            isNamed(x, 15, 3, "e");
        });
    }

    private static void merge() {
        test(6, "MERGED: all SITES of a PARISH are those of another one from a YEAR on", x -> {
            split(x, 0, 3, "b", 5);
            split(x, 0, 12, "c", 6);
            x.merge(1, 2, 8);
            is("sites(1, 7)", x.sites(1, 7), 3);
            is("sites(2, 7)", x.sites(2, 7), 12);
            is("sites(1, 8)", x.sites(1, 8), 0);
            is("sites(2, 8)", x.sites(2, 8), 15);
            is("sites(0, 8)", x.sites(0, 8), 4080);
            isNamed(x, 2, 8, "c");
        });
        test(6, "MERGED: all SITES of a PARISH are those of another one from a YEAR on", "the first parish", x -> {
            split(x, 0, 1, "b", 5);
            x.merge(0, 1, 8);
            is("sites(0, 8)", x.sites(0, 8), 0);
            is("sites(1, 8)", x.sites(1, 8), 4095);
        });
        test(6, "MERGED: all SITES of a PARISH are those of another one from a YEAR on", "the pad is not asked for", x -> {
            split(x, 0, 1, "b", 5);
            split(x, 0, 2, "c", 5);
            is("without a name", x.merge(1, 0, 5), 2);
            say(x, "de");
            is("with one", x.merge(2, 0, 5), 3);
            is("count(2)", x.count(2), 2);
        });
        test(6, "the number of the EVENT", x -> {
            split(x, 0, 1, "b", 5);
            is("the second", x.merge(1, 0, 5), 1);
            split(x, 0, 1, "b", 5);
            fill(x, 0, 5, 29);
            is("the last", x.merge(2, 0, 5), 29);
        });
    }

    private static void mergeRefused() {
        test(6, "UNKNOWN: both", "the one", x -> {
            split(x, 0, 1, "b", 5);
            each("merge(_, 0, 5)", UNKNOWN, parish -> x.merge(parish, 0, 5), -1, 2, 16, 32, NONE, LEAST, MOST);
            is("merge(1, 0, 5)", x.merge(1, 0, 5), 1);
        });
        test(6, "UNKNOWN: both", "the other", x -> {
            split(x, 0, 1, "b", 5);
            each("merge(0, _, 5)", UNKNOWN, parish -> x.merge(0, parish, 5), -1, 2, 16, 32, NONE, LEAST, MOST);
            is("merge(0, 1, 5)", x.merge(0, 1, 5), 1);
        });
        test(6, "UNKNOWN: both", "both at once, though they are one", x -> is("merge(1, 1, 0)", x.merge(1, 1, 0), UNKNOWN));
        test(6, "OUTSIDE: they are one", x -> {
            is("merge(0, 0, 0)", x.merge(0, 0, 0), OUTSIDE);
            split(x, 0, 1, "b", 5);
            is("merge(1, 1, 5)", x.merge(1, 1, 5), OUTSIDE);
        });
        test(6, "the YEAR", x -> {
            split(x, 0, 1, "b", 0);
            each("merge(1, 0, _)", OUTSIDE, year -> x.merge(1, 0, year), -1, 1000, LEAST, MOST);
            is("merge(1, 0, 999)", x.merge(1, 0, 999), 1);
        });
        test(6, "the YEAR", "the first one", x -> {
            split(x, 0, 1, "b", 0);
            is("merge(1, 0, 0)", x.merge(1, 0, 0), 1);
        });
        test(6, "STATE, as name()", x -> {
            split(x, 0, 1, "b", 10);
            is("merge(1, 0, 9)", x.merge(1, 0, 9), STATE);
            is("merge(1, 0, 10)", x.merge(1, 0, 10), 1);
        });
        test(6, "NO: one IS NOT THERE behind all EVENTS", "the one", x -> {
            split(x, 0, 1, "b", 10);
            x.merge(1, 0, 20);
            is("merge(1, 0, 20)", x.merge(1, 0, 20), NO);
        });
        test(6, "NO: one IS NOT THERE behind all EVENTS", "the other", x -> {
            split(x, 0, 1, "b", 10);
            x.merge(1, 0, 20);
            is("merge(0, 1, 20)", x.merge(0, 1, 20), NO);
        });
        test(6, "NO: one IS NOT THERE behind all EVENTS", "neither", x -> {
            split(x, 0, 1, "b", 10);
            split(x, 0, 2, "c", 10);
            x.merge(1, 0, 20);
            x.merge(2, 0, 20);
            is("merge(1, 2, 20)", x.merge(1, 2, 20), NO);
        });
        test(6, "FULL: there are 30", x -> {
            split(x, 0, 1, "b", 5);
            fill(x, 0, 5, 30);
            is("merge with 30", x.merge(1, 0, 5), FULL);
            x.undo();
            is("merge with 29", x.merge(1, 0, 5), 29);
        });
        test(6, "FULL: there are 30", "16 parishes are no matter", x -> {
            sixteenParishes(x);
            is("merge(3, 0, 3)", x.merge(3, 0, 3), 20);
        });
    }

    private static void shift() {
        test(7, "SHIFTED: a set of SITES of a PARISH are those of another one from a YEAR on", x -> {
            split(x, 0, 3, "b", 5);
            x.shift(0, 48, 1, 9);
            is("sites(1, 8)", x.sites(1, 8), 3);
            is("sites(1, 9)", x.sites(1, 9), 51);
            is("sites(0, 8)", x.sites(0, 8), 4092);
            is("sites(0, 9)", x.sites(0, 9), 4095 - 51);
            isNamed(x, 1, 9, "b");
            isNamed(x, 0, 9, "a");
        });
        test(7, "SHIFTED: a set of SITES of a PARISH are those of another one from a YEAR on", "and back", x -> {
            split(x, 0, 3, "b", 5);
            x.shift(0, 48, 1, 9);
            x.shift(1, 17, 0, 10);
            is("at(0, 9)", x.at(0, 9), 1);
            is("at(0, 10)", x.at(0, 10), 0);
            is("at(4, 10)", x.at(4, 10), 0);
            is("at(5, 10)", x.at(5, 10), 1);
        });
        test(7, "SHIFTED: a set of SITES of a PARISH are those of another one from a YEAR on", "the pad is not asked for", x -> {
            split(x, 0, 3, "b", 5);
            is("without a name", x.shift(0, 16, 1, 5), 1);
            say(x, "de");
            is("with one", x.shift(0, 32, 1, 5), 2);
            is("count(2)", x.count(2), 2);
        });
        test(7, "the number of the EVENT", x -> {
            split(x, 0, 3, "b", 5);
            is("the second", x.shift(0, 16, 1, 5), 1);
            fill(x, 0, 5, 29);
            is("the last", x.shift(0, 32, 1, 5), 29);
        });
    }

    private static void shiftRefused() {
        test(7, "UNKNOWN: both", "the one", x -> {
            split(x, 0, 3, "b", 5);
            each("shift(_, 1, 0, 5)", UNKNOWN, parish -> x.shift(parish, 1, 0, 5), -1, 2, 16, 32, NONE, LEAST, MOST);
            is("shift(1, 1, 0, 5)", x.shift(1, 1, 0, 5), 1);
        });
        test(7, "UNKNOWN: both", "the other", x -> {
            split(x, 0, 3, "b", 5);
            each("shift(0, 4, _, 5)", UNKNOWN, parish -> x.shift(0, 4, parish, 5), -1, 2, 16, 32, NONE, LEAST, MOST);
            is("shift(0, 4, 1, 5)", x.shift(0, 4, 1, 5), 1);
        });
        test(7, "UNKNOWN: both", "both at once, though they are one", x -> is("shift(1, 1, 1, 0)", x.shift(1, 1, 1, 0), UNKNOWN));
        test(7, "OUTSIDE: they are one", x -> {
            is("shift(0, 1, 0, 0)", x.shift(0, 1, 0, 0), OUTSIDE);
            split(x, 0, 3, "b", 5);
            is("shift(1, 1, 1, 5)", x.shift(1, 1, 1, 5), OUTSIDE);
        });
        test(7, "the set is none of SITES", x -> {
            split(x, 0, 3, "b", 5);
            each("shift(0, _, 1, 5)", OUTSIDE, set -> x.shift(0, set, 1, 5), 4096, 4100, 8191, -1, LEAST, LEAST + 4, MOST, 1 << 16 | 4);
            is("shift(0, 2048, 1, 5)", x.shift(0, 2048, 1, 5), 1);
        });
        test(7, "the set is none of SITES", "4095 and 0 are of sites", x -> {
            split(x, 0, 3, "b", 5);
            is("shift(0, 4095, 1, 5)", x.shift(0, 4095, 1, 5), NO);
            is("shift(0, 0, 1, 5)", x.shift(0, 0, 1, 5), NO);
        });
        test(7, "the YEAR", x -> {
            split(x, 0, 3, "b", 0);
            each("shift(0, 4, 1, _)", OUTSIDE, year -> x.shift(0, 4, 1, year), -1, 1000, LEAST, MOST);
            is("shift(0, 4, 1, 999)", x.shift(0, 4, 1, 999), 1);
        });
        test(7, "the YEAR", "the first one", x -> {
            split(x, 0, 3, "b", 0);
            is("shift(0, 4, 1, 0)", x.shift(0, 4, 1, 0), 1);
        });
        test(7, "STATE, as name()", x -> {
            split(x, 0, 3, "b", 10);
            is("shift(0, 4, 1, 9)", x.shift(0, 4, 1, 9), STATE);
            is("shift(0, 4, 1, 10)", x.shift(0, 4, 1, 10), 1);
        });
        test(7, "NO: the other one IS NOT THERE behind all EVENTS", x -> {
            split(x, 0, 3, "b", 10);
            x.merge(1, 0, 20);
            is("shift(0, 4, 1, 20)", x.shift(0, 4, 1, 20), NO);
            is("shift(0, 1, 1, 999)", x.shift(0, 1, 1, 999), NO);
        });
        test(7, "or of the set as split()", "the set is empty", x -> {
            split(x, 0, 3, "b", 10);
            is("shift(0, 0, 1, 10)", x.shift(0, 0, 1, 10), NO);
        });
        test(7, "or of the set as split()", "a site that it has not", x -> {
            split(x, 0, 3, "b", 10);
            is("the other's", x.shift(0, 1, 1, 10), NO);
            is("its own and the other's", x.shift(0, 5, 1, 10), NO);
            is("all and one more", x.shift(1, 7, 0, 10), NO);
        });
        test(7, "or of the set as split()", "a site of a third one", x -> {
            split(x, 0, 3, "b", 10);
            split(x, 0, 12, "c", 10);
            is("shift(0, 4, 1, 10)", x.shift(0, 4, 1, 10), NO);
        });
        test(7, "or of the set as split()", "all of its sites", x -> {
            split(x, 0, 3, "b", 10);
            is("shift(1, 3, 0, 10)", x.shift(1, 3, 0, 10), NO);
            is("shift(0, 4092, 1, 10)", x.shift(0, 4092, 1, 10), NO);
            is("all but one", x.shift(1, 1, 0, 10), 1);
            is("the only one", x.shift(1, 2, 0, 10), NO);
        });
        test(7, "or of the set as split()", "it is not there", x -> {
            split(x, 0, 3, "b", 10);
            x.merge(1, 0, 20);
            is("shift(1, 1, 0, 20)", x.shift(1, 1, 0, 20), NO);
        });
        test(7, "FULL: there are 30", x -> {
            split(x, 0, 3, "b", 5);
            fill(x, 0, 5, 30);
            is("shift with 30", x.shift(0, 4, 1, 5), FULL);
            x.undo();
            is("shift with 29", x.shift(0, 4, 1, 5), 29);
        });
        test(7, "FULL: there are 30", "16 parishes are no matter", x -> {
            sixteenParishes(x);
            is("shift(0, 4, 15, 3)", x.shift(0, 4, 15, 3), 20);
        });
    }

    private static void undo() {
        test(8, "The last EVENT goes", "NAMED", x -> {
            named(x, 0, "b", 10);
            named(x, 0, "c", 20);
            is("undo()", x.undo(), 1);
            isNamed(x, 0, 20, "b");
            is("count(3)", x.count(3), 10);
            is("event(1, 0)", x.event(1, 0), NONE);
        });
        test(8, "The last EVENT goes", "SPLIT", x -> {
            split(x, 0, 3, "b", 10);
            is("undo()", x.undo(), 0);
            is("sites(0, 10)", x.sites(0, 10), 4095);
        });
        test(8, "The last EVENT goes", "MERGED", x -> {
            split(x, 0, 3, "b", 10);
            x.merge(0, 1, 20);
            is("undo()", x.undo(), 1);
            is("sites(0, 20)", x.sites(0, 20), 4092);
            is("sites(1, 20)", x.sites(1, 20), 3);
            is("it is there again", named(x, 0, "c", 20), 1);
        });
        test(8, "The last EVENT goes", "SHIFTED", x -> {
            split(x, 0, 3, "b", 10);
            x.shift(0, 4, 1, 20);
            is("undo()", x.undo(), 1);
            is("sites(1, 20)", x.sites(1, 20), 3);
        });
        test(8, "The last EVENT goes", "the pad stays as it is", x -> {
            named(x, 0, "b", 10);
            say(x, "xyz");
            x.undo();
            is("count(2)", x.count(2), 3);
            x.name(0, 0);
            isNamed(x, 0, 0, "xyz");
        });
        test(8, "The last EVENT goes", "the last of 30", x -> {
            fill(x, 0, 5, 30);
            is("undo()", x.undo(), 29);
            is("event(29, 0)", x.event(29, 0), NONE);
            is("event(28, 0)", x.event(28, 0), 0);
        });
        test(8, "and the PARISH that came by it", "it goes", x -> {
            split(x, 0, 3, "b", 10);
            x.undo();
            is("sites(1, 10)", x.sites(1, 10), UNKNOWN);
            is("count(1)", x.count(1), 1);
            is("its number is free", split(x, 0, 4, "c", 0), 1);
            isNamed(x, 1, 0, "c");
        });
        test(8, "and the PARISH that came by it", "another one's event takes none away", x -> {
            split(x, 0, 3, "b", 10);
            named(x, 1, "c", 10);
            x.undo();
            is("count(1) behind NAMED", x.count(1), 2);
            x.shift(0, 4, 1, 10);
            x.undo();
            is("count(1) behind SHIFTED", x.count(1), 2);
            x.merge(1, 0, 10);
            x.undo();
            is("count(1) behind MERGED", x.count(1), 2);
            is("sites(1, 10)", x.sites(1, 10), 3);
        });
        test(8, "how many EVENTS there are", x -> {
            named(x, 0, "b", 10);
            named(x, 0, "c", 10);
            is("undo()", x.undo(), 1);
            is("undo() of the only one", x.undo(), 0);
            is("count(0)", x.count(0), 0);
        });
        test(8, "NONE: there was none", "at first", x -> is("undo()", x.undo(), NONE));
        test(8, "NONE: there was none", "all are undone", x -> {
            split(x, 0, 1, "b", 10);
            x.undo();
            is("undo()", x.undo(), NONE);
            is("undo() again", x.undo(), NONE);
            is("count(0)", x.count(0), 0);
            is("count(1)", x.count(1), 1);
        });
    }

    /** An event of each kind: 0 SPLIT, 1 NAMED, 2 SPLIT, 3 SHIFTED, 4 MERGED. */
    private static void five(ParishNames x) {
        split(x, 0, 7, "b", 5);
        named(x, 1, "c", 6);
        split(x, 1, 1, "d", 7);
        x.shift(0, 24, 2, 8);
        x.merge(2, 1, 9);
    }

    private static void facts(ParishNames x, int what, int... want) {
        for (int i = 0; i < want.length; i++) is("event(" + i + ", " + what + ")", x.event(i, what), want[i]);
    }

    private static void event() {
        test(9, "Of the i-th EVENT: KIND (what = 0)", x -> {
            five(x);
            facts(x, 0, 1, 0, 1, 3, 2);
        });
        test(9, "YEAR (1)", x -> {
            five(x);
            facts(x, 1, 5, 6, 7, 8, 9);
        });
        test(9, "YEAR (1)", "the first and the last one", x -> {
            named(x, 0, "b", 0);
            named(x, 0, "b", 999);
            facts(x, 1, 0, 999);
        });
        test(9, "the PARISH (2; of SPLIT that which was split)", x -> {
            five(x);
            facts(x, 2, 0, 1, 1, 0, 2);
        });
        test(9, "the set of SITES that changed hands (3", x -> {
            five(x);
            facts(x, 3, 7, NONE, 1, 24, 25);
        });
        test(9, "of MERGED all that it had then", "not what it has later, nor had before", x -> {
            split(x, 0, 3, "b", 5);
            x.shift(0, 4, 1, 6);
            x.shift(1, 1, 0, 6);
            x.merge(1, 0, 7);
            split(x, 0, 2, "c", 8);
            is("event(3, 3)", x.event(3, 3), 6);
        });
        test(9, "of MERGED all that it had then", "all but one of all", x -> {
            split(x, 0, 1, "b", 5);
            x.merge(0, 1, 5);
            is("event(1, 3)", x.event(1, 3), 4094);
        });
        test(9, "all that it had then; NONE: NAMED)", x -> {
            named(x, 0, "b", 5);
            is("event(0, 3)", x.event(0, 3), NONE);
        });
        test(9, "whose they are then (4; NONE: NAMED)", x -> {
            five(x);
            facts(x, 4, 1, NONE, 2, 2, 1);
        });
        test(9, "whose they are then (4; NONE: NAMED)", "the first parish", x -> {
            split(x, 0, 3, "b", 5);
            x.shift(1, 1, 0, 5);
            x.merge(1, 0, 5);
            is("event(1, 4)", x.event(1, 4), 0);
            is("event(2, 4)", x.event(2, 4), 0);
        });
        test(9, "NONE: there is none such (i below 0, too)", "behind the last one", x -> {
            five(x);
            for (int what = 0; what < 5; what++) {
                int asked = what;
                each("event(_, " + what + ")", NONE, i -> x.event(i, asked), 5, 29, 30, 31, MOST);
            }
        });
        test(9, "NONE: there is none such (i below 0, too)", "below 0", x -> {
            five(x);
            for (int what = 0; what < 5; what++) {
                int asked = what;
                each("event(_, " + what + ")", NONE, i -> x.event(i, asked), -1, -2, LEAST);
            }
        });
        test(9, "NONE: there is none such (i below 0, too)", "30 of them", x -> {
            fill(x, 0, 5, 30);
            is("event(29, 1)", x.event(29, 1), 5);
            is("event(30, 1)", x.event(30, 1), NONE);
        });
        test(9, "NONE: there is none such (i below 0, too)", "an undone one", x -> {
            five(x);
            x.undo();
            is("event(4, 0)", x.event(4, 0), NONE);
            is("event(3, 0)", x.event(3, 0), 3);
        });
        test(9, "OUTSIDE: what", x -> {
            five(x);
            each("event(0, _)", OUTSIDE, what -> x.event(0, what), -1, 5, LEAST, MOST);
            is("event(0, 4)", x.event(0, 4), 1);
        });
        test(9, "OUTSIDE: what", "of NAMED", x -> {
            named(x, 0, "b", 5);
            each("event(0, _)", OUTSIDE, what -> x.event(0, what), -1, 5);
        });
    }
}
