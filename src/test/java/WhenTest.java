import java.util.function.Consumer;

/** Promises 10 to 14: at, sites, letter, sound, parish. */
public final class WhenTest extends Sentences {
    public static void main(String[] args) {
        all();
        end("WhenTest");
    }

    static void all() {
        at();
        sites();
        letter();
        sound();
        parishYears();
        parishEvents();
        parishSites();
        parishRefused();
    }

    private static void at() {
        test(10, "Which PARISH a SITE is of in a YEAR", x -> {
            split(x, 0, 1 << 11 | 1, "b", 10);
            x.shift(1, 1, 0, 20);
            is("at(0, 9)", x.at(0, 9), 0);
            is("at(0, 10)", x.at(0, 10), 1);
            is("at(0, 19)", x.at(0, 19), 1);
            is("at(0, 20)", x.at(0, 20), 0);
            is("at(11, 20)", x.at(11, 20), 1);
            is("at(10, 20)", x.at(10, 20), 0);
        });
        test(10, "Which PARISH a SITE is of in a YEAR", "the first and the last year", x -> {
            split(x, 0, 1, "b", 0);
            split(x, 0, 2, "c", 999);
            is("at(0, 0)", x.at(0, 0), 1);
            is("at(1, 0)", x.at(1, 0), 0);
            is("at(1, 998)", x.at(1, 998), 0);
            is("at(1, 999)", x.at(1, 999), 2);
        });
        test(10, "Which PARISH a SITE is of in a YEAR", "the last parish of all", x -> {
            sixteenParishes(x);
            is("at(1, 3)", x.at(1, 3), 15);
        });
        test(10, "UNKNOWN", x -> {
            each("at(_, 0)", UNKNOWN, site -> x.at(site, 0), -1, 12, 31, 32, 33, LEAST, MOST);
            each("at(_, 0)", 0, site -> x.at(site, 0), 0, 11);
        });
        test(10, "OUTSIDE", x -> {
            each("at(0, _)", OUTSIDE, year -> x.at(0, year), -1, 1000, LEAST, MOST);
            each("at(0, _)", 0, year -> x.at(0, year), 0, 999);
        });
    }

    private static void sites() {
        test(11, "The set of SITES of a PARISH in a YEAR", x -> {
            split(x, 0, 2049, "b", 10);
            x.shift(0, 6, 1, 20);
            is("sites(0, 9)", x.sites(0, 9), 4095);
            is("sites(0, 10)", x.sites(0, 10), 2046);
            is("sites(1, 10)", x.sites(1, 10), 2049);
            is("sites(1, 19)", x.sites(1, 19), 2049);
            is("sites(1, 20)", x.sites(1, 20), 2055);
            is("sites(0, 999)", x.sites(0, 999), 2040);
        });
        test(11, "0: it IS NOT THERE", "not yet", x -> {
            split(x, 0, 1, "b", 10);
            is("sites(1, 9)", x.sites(1, 9), 0);
            is("sites(1, 0)", x.sites(1, 0), 0);
        });
        test(11, "0: it IS NOT THERE", "no more", x -> {
            split(x, 0, 1, "b", 10);
            x.merge(0, 1, 20);
            is("sites(0, 19)", x.sites(0, 19), 4094);
            is("sites(0, 20)", x.sites(0, 20), 0);
            is("sites(0, 999)", x.sites(0, 999), 0);
        });
        test(11, "0: it IS NOT THERE", "never", x -> {
            parishOfNoYear(x, 10);
            each("sites(1, _)", 0, year -> x.sites(1, year), 0, 9, 10, 11, 999);
        });
        test(11, "UNKNOWN", x -> {
            each("sites(_, 0)", UNKNOWN, parish -> x.sites(parish, 0), -1, 1, 15, 16, 32, NONE, LEAST, MOST);
            split(x, 0, 1, "b", 0);
            is("sites(1, 0)", x.sites(1, 0), 1);
            is("sites(2, 0)", x.sites(2, 0), UNKNOWN);
        });
        test(11, "OUTSIDE", x -> {
            each("sites(0, _)", OUTSIDE, year -> x.sites(0, year), -1, 1000, LEAST, MOST);
            each("sites(0, _)", 4095, year -> x.sites(0, year), 0, 999);
        });
    }

    private static void letter() {
        test(12, "Letter k, from 0 on, of the NAME of a PARISH in a YEAR", x -> {
            String name = "zbcdwxya";
            split(x, 0, 1, name, 10);
            named(x, 1, "q", 20);
            for (int k = 0; k < 8; k++) is("letter(1, 19, " + k + ")", x.letter(1, 19, k), name.charAt(k));
            is("letter(1, 20, 0)", x.letter(1, 20, 0), 'q');
            is("letter(0, 20, 0)", x.letter(0, 20, 0), 'a');
        });
        test(12, "(k = -1: how many)", x -> {
            is("letter(0, 0, -1)", x.letter(0, 0, -1), 1);
            for (int length = 1; length <= 8; length++) {
                named(x, 0, "bcdefghi".substring(0, length), 0);
                is("letter(0, 0, -1)", x.letter(0, 0, -1), length);
            }
        });
        test(12, "NONE: the PARISH IS NOT THERE then", "not yet", x -> {
            split(x, 0, 1, "b", 10);
            each("letter(1, 9, _)", NONE, k -> x.letter(1, 9, k), -1, 0, 1);
            is("letter(1, 10, 0)", x.letter(1, 10, 0), 'b');
        });
        test(12, "NONE: the PARISH IS NOT THERE then", "no more", x -> {
            split(x, 0, 1, "b", 10);
            x.merge(1, 0, 20);
            is("letter(1, 19, 0)", x.letter(1, 19, 0), 'b');
            each("letter(1, 20, _)", NONE, k -> x.letter(1, 20, k), -1, 0, 1);
        });
        test(12, "NONE: the PARISH IS NOT THERE then", "the first parish", x -> {
            split(x, 0, 1, "b", 0);
            x.merge(0, 1, 0);
            each("letter(0, 0, _)", NONE, k -> x.letter(0, 0, k), -1, 0);
        });
        test(12, "or there is no such letter", "of one", x -> each("letter(0, 0, _)", NONE, k -> x.letter(0, 0, k), 1, 2, 7, 8, MOST));
        test(12, "or there is no such letter", "of eight", x -> {
            named(x, 0, "bcdefghi", 0);
            is("letter(0, 0, 7)", x.letter(0, 0, 7), 'i');
            each("letter(0, 0, _)", NONE, k -> x.letter(0, 0, k), 8, 9, 16, 64, MOST);
        });
        test(12, "UNKNOWN", x -> each("letter(_, 0, 0)", UNKNOWN, parish -> x.letter(parish, 0, 0), -1, 1, 16, 32, NONE, LEAST, MOST));
        test(12, "OUTSIDE: the YEAR", x -> {
            each("letter(0, _, 0)", OUTSIDE, year -> x.letter(0, year, 0), -1, 1000, LEAST, MOST);
            each("letter(0, _, 0)", 'a', year -> x.letter(0, year, 0), 0, 999);
        });
        test(12, "k is below -1", x -> each("letter(0, 0, _)", OUTSIDE, k -> x.letter(0, 0, k), -2, -8, LEAST));
    }

    private static void sound() {
        test(13, "CLASS k, from 0 on, of the SOUND of the NAME of a PARISH in a YEAR", x -> {
            split(x, 0, 1, "dover", 10);
            named(x, 1, "ely", 20);
            is("sound(1, 19, 0)", x.sound(1, 19, 0), 3);
            is("sound(1, 19, 1)", x.sound(1, 19, 1), 1);
            is("sound(1, 19, 2)", x.sound(1, 19, 2), 6);
            is("sound(1, 20, 0)", x.sound(1, 20, 0), 0);
            is("sound(1, 20, 1)", x.sound(1, 20, 1), 4);
            is("sound(0, 20, 0)", x.sound(0, 20, 0), 0);
        });
        test(13, "(k = -1: how many)", x -> {
            is("sound(0, 0, -1)", x.sound(0, 0, -1), 1);
            String[] names = {"b", "bc", "bcd", "bcdl", "bcdlm", "bcdlmrbc"};
            int[] want = {1, 2, 3, 4, 4, 4};
            for (int i = 0; i < names.length; i++) {
                named(x, 0, names[i], 0);
                is("sound(0, 0, -1) of " + names[i], x.sound(0, 0, -1), want[i]);
            }
        });
        test(13, "NONE: the PARISH IS NOT THERE then", "not yet", x -> {
            split(x, 0, 1, "b", 10);
            each("sound(1, 9, _)", NONE, k -> x.sound(1, 9, k), -1, 0, 1);
            is("sound(1, 10, 0)", x.sound(1, 10, 0), 1);
        });
        test(13, "NONE: the PARISH IS NOT THERE then", "no more", x -> {
            split(x, 0, 1, "b", 10);
            x.merge(1, 0, 20);
            is("sound(1, 19, 0)", x.sound(1, 19, 0), 1);
            each("sound(1, 20, _)", NONE, k -> x.sound(1, 20, k), -1, 0, 1);
        });
        test(13, "or there is no such CLASS", "of one", x -> each("sound(0, 0, _)", NONE, k -> x.sound(0, 0, k), 1, 3, 4, 8, MOST));
        test(13, "or there is no such CLASS", "of four", x -> {
            named(x, 0, "bcdlmrbc", 0);
            is("sound(0, 0, 3)", x.sound(0, 0, 3), 4);
            each("sound(0, 0, _)", NONE, k -> x.sound(0, 0, k), 4, 5, 8, 32, MOST);
        });
        test(13, "UNKNOWN", x -> each("sound(_, 0, 0)", UNKNOWN, parish -> x.sound(parish, 0, 0), -1, 1, 16, 32, NONE, LEAST, MOST));
        test(13, "OUTSIDE: the YEAR", x -> {
            each("sound(0, _, 0)", OUTSIDE, year -> x.sound(0, year, 0), -1, 1000, LEAST, MOST);
            each("sound(0, _, 0)", 0, year -> x.sound(0, year, 0), 0, 999);
        });
        test(13, "k is below -1", x -> each("sound(0, 0, _)", OUTSIDE, k -> x.sound(0, 0, k), -2, -8, LEAST));
    }

    private static void parishYears() {
        test(14, "Of a PARISH: the first YEAR in which it IS THERE (what = 0)", x -> {
            split(x, 0, 3, "b", 10);
            x.shift(0, 4, 1, 20);
            is("parish(0, 0)", x.parish(0, 0), 0);
            is("parish(1, 0)", x.parish(1, 0), 10);
        });
        test(14, "Of a PARISH: the first YEAR in which it IS THERE (what = 0)", "the last of all", x -> {
            split(x, 0, 3, "b", 999);
            is("parish(1, 0)", x.parish(1, 0), 999);
        });
        test(14, "Of a PARISH: the first YEAR in which it IS THERE (what = 0)", "the first of all, though not at first", x -> {
            split(x, 0, 3, "b", 0);
            is("parish(1, 0)", x.parish(1, 0), 0);
        });
        test(14, "the last one (1)", "it is there to the end", x -> {
            split(x, 0, 3, "b", 10);
            is("parish(0, 1)", x.parish(0, 1), 999);
            is("parish(1, 1)", x.parish(1, 1), 999);
        });
        test(14, "the last one (1)", "it is merged", x -> {
            split(x, 0, 3, "b", 10);
            x.merge(1, 0, 20);
            is("parish(1, 1)", x.parish(1, 1), 19);
            split(x, 0, 3, "c", 30);
            x.merge(0, 2, 999);
            is("parish(0, 1)", x.parish(0, 1), 998);
        });
        test(14, "in how many it is (2)", x -> {
            is("parish(0, 2)", x.parish(0, 2), 1000);
            split(x, 0, 3, "b", 10);
            is("parish(1, 2)", x.parish(1, 2), 990);
            x.shift(0, 4, 1, 15);
            is("parish(1, 2), a site more", x.parish(1, 2), 990);
            x.merge(1, 0, 20);
            is("parish(1, 2), merged", x.parish(1, 2), 10);
            is("parish(0, 2), merged", x.parish(0, 2), 1000);
        });
        test(14, "in how many it is (2)", "one year", x -> {
            split(x, 0, 3, "b", 10);
            x.merge(1, 0, 11);
            is("parish(1, 0)", x.parish(1, 0), 10);
            is("parish(1, 1)", x.parish(1, 1), 10);
            is("parish(1, 2)", x.parish(1, 2), 1);
        });
        test(14, "in how many it is (2)", "the year 0 alone", x -> {
            split(x, 0, 1, "b", 1);
            x.merge(0, 1, 1);
            is("parish(0, 1)", x.parish(0, 1), 0);
            is("parish(0, 2)", x.parish(0, 2), 1);
        });
        test(14, "in how many it is (2)", "the year 999 alone", x -> {
            split(x, 0, 3, "b", 999);
            is("parish(1, 2)", x.parish(1, 2), 1);
        });
    }

    private static void parishEvents() {
        test(14, "how many EVENTS tell of it (3", "none", x -> is("parish(0, 3)", x.parish(0, 3), 0));
        test(14, "how many EVENTS tell of it (3", "30", x -> {
            fill(x, 0, 5, 30);
            is("parish(0, 3)", x.parish(0, 3), 30);
        });
        test(14, "how many EVENTS tell of it (3", "also those of one year", x -> {
            parishOfNoYear(x, 10);
            is("parish(0, 3)", x.parish(0, 3), 2);
            is("parish(1, 3)", x.parish(1, 3), 2);
        });
        tellsOf("NAMED", x -> named(x, 1, "d", 20), 0, 1, 0);
        tellsOf("SPLIT", x -> split(x, 1, 1, "d", 20), 0, 1, 0);
        tellsOf("MERGED", x -> x.merge(1, 2, 20), 0, 1, 1);
        tellsOf("SHIFTED", x -> x.shift(1, 1, 2, 20), 0, 1, 1);
        test(14, "also of whose SITES are then", x -> {
            split(x, 0, 3, "b", 10);
            is("the new one of SPLIT", x.parish(1, 3), 1);
            x.shift(0, 4, 1, 20);
            is("the other one of SHIFTED", x.parish(1, 3), 2);
            x.merge(0, 1, 30);
            is("the other one of MERGED", x.parish(1, 3), 3);
        });
    }

    /** By how much parishes 0, 1 and 2 are told of more, of which 1 and 2 were split off. */
    private static void tellsOf(String kind, Consumer<ParishNames> told, int... more) {
        test(14, kind, x -> {
            split(x, 0, 3, "b", 10);
            split(x, 0, 12, "c", 10);
            int[] before = {x.parish(0, 3), x.parish(1, 3), x.parish(2, 3)};
            told.accept(x);
            for (int parish = 0; parish < 3; parish++) {
                is("parish(" + parish + ", 3)", x.parish(parish, 3), before[parish] + more[parish]);
            }
        });
    }

    private static void parishSites() {
        test(14, "how many SITES were its in any YEAR", x -> {
            is("parish(0, 4)", x.parish(0, 4), 12);
            split(x, 0, 3, "b", 10);
            is("parish(0, 4), some lost", x.parish(0, 4), 12);
            is("parish(1, 4)", x.parish(1, 4), 2);
            x.shift(0, 4, 1, 20);
            is("parish(1, 4), one more", x.parish(1, 4), 3);
            x.shift(1, 3, 0, 30);
            is("parish(1, 4), two lost", x.parish(1, 4), 3);
            x.merge(1, 0, 40);
            is("parish(1, 4), merged", x.parish(1, 4), 3);
        });
        test(14, "how many SITES were its in any YEAR", "in the last year alone", x -> {
            split(x, 0, 1, "b", 10);
            x.merge(0, 1, 999);
            is("parish(1, 4)", x.parish(1, 4), 12);
        });
        test(14, "how many SITES were its in any YEAR", "not those between events of one year", x -> {
            split(x, 0, 3, "b", 10);
            x.shift(0, 12, 1, 20);
            x.shift(1, 4, 0, 20);
            is("parish(1, 4)", x.parish(1, 4), 3);
        });
        test(14, "how many SITES were its in any YEAR", "not those lost in year 0", x -> {
            split(x, 0, 7, "b", 0);
            is("parish(0, 4)", x.parish(0, 4), 9);
        });
        test(14, "each counted once (4)", x -> {
            split(x, 0, 3, "b", 10);
            x.shift(1, 1, 0, 20);
            x.shift(0, 1, 1, 30);
            x.shift(1, 1, 0, 40);
            x.shift(0, 1, 1, 50);
            is("parish(1, 4)", x.parish(1, 4), 2);
            is("parish(0, 4)", x.parish(0, 4), 12);
        });
    }

    private static void parishRefused() {
        test(14, "NONE: it IS THERE in no YEAR (0, 1)", x -> {
            parishOfNoYear(x, 10);
            is("parish(1, 0)", x.parish(1, 0), NONE);
            is("parish(1, 1)", x.parish(1, 1), NONE);
        });
        test(14, "NONE: it IS THERE in no YEAR (0, 1)", "what is counted is 0 then", x -> {
            parishOfNoYear(x, 10);
            is("parish(1, 2)", x.parish(1, 2), 0);
            is("parish(1, 3)", x.parish(1, 3), 2);
            is("parish(1, 4)", x.parish(1, 4), 0);
        });
        test(14, "NONE: it IS THERE in no YEAR (0, 1)", "the first parish", x -> {
            split(x, 0, 1, "b", 0);
            x.merge(0, 1, 0);
            is("parish(0, 0)", x.parish(0, 0), NONE);
            is("parish(0, 1)", x.parish(0, 1), NONE);
            is("parish(0, 2)", x.parish(0, 2), 0);
            is("parish(0, 4)", x.parish(0, 4), 0);
        });
        test(14, "NONE: it IS THERE in no YEAR (0, 1)", "in the last year", x -> {
            parishOfNoYear(x, 999);
            is("parish(1, 0)", x.parish(1, 0), NONE);
            is("parish(1, 1)", x.parish(1, 1), NONE);
        });
        test(14, "UNKNOWN", x -> {
            for (int what = 0; what < 5; what++) {
                int asked = what;
                each("parish(_, " + what + ")", UNKNOWN, parish -> x.parish(parish, asked), -1, 1, 16, 32, NONE, LEAST, MOST);
            }
        });
        test(14, "UNKNOWN", "it came by an event that was undone", x -> {
            split(x, 0, 1, "b", 10);
            is("parish(1, 0)", x.parish(1, 0), 10);
            x.undo();
            is("parish(1, 0) behind undo", x.parish(1, 0), UNKNOWN);
        });
        test(14, "OUTSIDE", x -> {
            each("parish(0, _)", OUTSIDE, what -> x.parish(0, what), -1, 5, LEAST, MOST);
            is("parish(0, 4)", x.parish(0, 4), 12);
        });
    }
}
