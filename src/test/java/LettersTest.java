/** Promises 15 to 17: find, called, off. */
public final class LettersTest extends Sentences {
    public static void main(String[] args) {
        all();
        end("LettersTest");
    }

    static void all() {
        find();
        findByYears();
        findRefused();
        called();
        calledByYears();
        calledRefused();
        off();
        offRefused();
    }

    /** Parish 1 is "ely" from 10 to 29 and from 40 to 49, parish 0 from 20 to 29. */
    private static void elys(ParishNames x) {
        split(x, 0, 1, "ely", 10);
        named(x, 0, "ely", 20);
        named(x, 0, "york", 30);
        named(x, 1, "bath", 30);
        named(x, 1, "ely", 40);
        x.merge(1, 0, 50);
        write(x, "ely");
    }

    private static void find() {
        test(15, "with a NAME then that is like that on THE PAD, HOW", x -> {
            split(x, 0, 1, "bury", 10);
            split(x, 0, 2, "berry", 10);
            split(x, 0, 4, "bur", 10);
            split(x, 0, 8, "bury", 10);
            split(x, 0, 16, "hull", 10);
            write(x, "bury");
            finds(x, 0, 999, 0, 1, 4);
            finds(x, 0, 999, 1, 1, 2, 3, 4);
            finds(x, 0, 999, 2, 1, 3, 4);
        });
        test(15, "with a NAME then that is like that on THE PAD, HOW", "the pad stays", x -> {
            write(x, "ab");
            is("find(0, 0, 2, -1)", x.find(0, 0, 2, -1), 1);
            is("find(0, 0, 0, -1)", x.find(0, 0, 0, -1), 0);
            x.name(0, 0);
            isNamed(x, 0, 0, "ab");
        });
        test(15, "how many (i = -1)", "none", x -> {
            write(x, "b");
            is("find(0, 999, 0, -1)", x.find(0, 999, 0, -1), 0);
        });
        test(15, "how many (i = -1)", "all of 16", x -> {
            sixteenParishes(x);
            write(x, "b");
            is("find(0, 999, 2, -1)", x.find(0, 999, 2, -1), 13);
            is("find(1, 1, 0, -1)", x.find(1, 1, 0, -1), 11);
        });
        test(15, "how many (i = -1)", "each once, however often it is called so", x -> {
            elys(x);
            is("find(0, 999, 0, -1)", x.find(0, 999, 0, -1), 2);
        });
        test(15, "the i-th by their numbers", x -> {
            split(x, 0, 1, "b", 10);
            split(x, 0, 2, "c", 10);
            split(x, 0, 4, "b", 10);
            named(x, 0, "b", 20);
            write(x, "b");
            is("find(0, 999, 0, 0)", x.find(0, 999, 0, 0), 0);
            is("find(0, 999, 0, 1)", x.find(0, 999, 0, 1), 1);
            is("find(0, 999, 0, 2)", x.find(0, 999, 0, 2), 3);
        });
        test(15, "the i-th by their numbers", "the last parish of all", x -> {
            sixteenParishes(x);
            write(x, "c");
            is("find(3, 3, 0, 0)", x.find(3, 3, 0, 0), 15);
        });
        test(15, "NONE: there is none such", "none at all", x -> {
            write(x, "b");
            each("find(0, 999, 0, _)", NONE, i -> x.find(0, 999, 0, i), 0, 1, 15, MOST);
        });
        test(15, "NONE: there is none such", "behind the last one", x -> {
            write(x, "a");
            is("find(0, 999, 0, 0)", x.find(0, 999, 0, 0), 0);
            each("find(0, 999, 0, _)", NONE, i -> x.find(0, 999, 0, i), 1, 2, 16, MOST);
        });
    }

    private static void findByYears() {
        test(15, "PARISHES that ARE THERE in any YEAR from one to another one", x -> {
            elys(x);
            finds(x, 0, 9, 0);
            finds(x, 0, 10, 0, 1);
            finds(x, 0, 19, 0, 1);
            finds(x, 0, 20, 0, 0, 1);
            finds(x, 29, 39, 0, 0, 1);
            finds(x, 30, 39, 0);
            finds(x, 30, 40, 0, 1);
            finds(x, 49, 999, 0, 1);
        });
        test(15, "PARISHES that ARE THERE in any YEAR from one to another one", "it is not there, though it was called so", x -> {
            elys(x);
            finds(x, 50, 999, 0);
        });
        test(15, "PARISHES that ARE THERE in any YEAR from one to another one", "there in some of the years, called so in others", x -> {
            split(x, 0, 1, "b", 10);
            named(x, 1, "c", 20);
            write(x, "b");
            finds(x, 20, 999, 0);
            write(x, "c");
            finds(x, 0, 19, 0);
        });
        test(15, "PARISHES that ARE THERE in any YEAR from one to another one", "the first name, which it has no more", x -> {
            named(x, 0, "york", 20);
            write(x, "a");
            finds(x, 0, 0, 0, 0);
            finds(x, 19, 999, 0, 0);
            finds(x, 20, 999, 0);
        });
        test(15, "PARISHES that ARE THERE in any YEAR from one to another one", "the first name, held in no year", x -> {
            named(x, 0, "york", 0);
            write(x, "a");
            finds(x, 0, 999, 0);
        });
        test(15, "PARISHES that ARE THERE in any YEAR from one to another one", "a name that held in no year", x -> {
            named(x, 0, "leeds", 60);
            named(x, 0, "york", 60);
            write(x, "leeds");
            finds(x, 0, 999, 0);
        });
        test(15, "PARISHES that ARE THERE in any YEAR from one to another one", "a parish that is there in no year", x -> {
            parishOfNoYear(x, 10);
            write(x, "b");
            finds(x, 0, 999, 0);
        });
        test(15, "(no less)", "the same year", x -> {
            elys(x);
            finds(x, 10, 10, 0, 1);
            finds(x, 9, 9, 0);
            finds(x, 49, 49, 0, 1);
        });
        test(15, "(no less)", "less", x -> {
            elys(x);
            is("find(11, 10, 0, -1)", x.find(11, 10, 0, -1), OUTSIDE);
            is("find(999, 0, 0, -1)", x.find(999, 0, 0, -1), OUTSIDE);
        });
    }

    private static void findRefused() {
        test(15, "OUTSIDE: the YEARS", "the one", x -> {
            write(x, "a");
            each("find(_, 999, 0, -1)", OUTSIDE, from -> x.find(from, 999, 0, -1), -1, 1000, LEAST, MOST);
            is("find(0, 999, 0, -1)", x.find(0, 999, 0, -1), 1);
        });
        test(15, "OUTSIDE: the YEARS", "the other", x -> {
            write(x, "a");
            each("find(0, _, 0, -1)", OUTSIDE, to -> x.find(0, to, 0, -1), -1, 1000, LEAST, MOST);
            is("find(0, 0, 0, -1)", x.find(0, 0, 0, -1), 1);
            is("find(999, 999, 0, -1)", x.find(999, 999, 0, -1), 1);
        });
        test(15, "OUTSIDE: the YEARS", "both", x -> {
            write(x, "a");
            is("find(1000, 1000, 0, -1)", x.find(1000, 1000, 0, -1), OUTSIDE);
            is("find(-1, -1, 0, -1)", x.find(-1, -1, 0, -1), OUTSIDE);
        });
        test(15, "the YEARS, HOW", x -> {
            write(x, "a");
            each("find(0, 999, _, -1)", OUTSIDE, how -> x.find(0, 999, how, -1), -1, 3, LEAST, MOST);
            each("find(0, 999, _, -1)", 1, how -> x.find(0, 999, how, -1), 0, 1, 2);
        });
        test(15, "i is below -1", x -> {
            write(x, "a");
            each("find(0, 999, 0, _)", OUTSIDE, i -> x.find(0, 999, 0, i), -2, -6, LEAST);
        });
        test(15, "FAULT", x -> {
            each("find(0, 999, _, -1)", FAULT, how -> x.find(0, 999, how, -1), 0, 1, 2);
            is("find(0, 999, 0, 0)", x.find(0, 999, 0, 0), FAULT);
            x.say(97);
            is("find(0, 999, 0, 0) of a", x.find(0, 999, 0, 0), 0);
        });
    }

    private static void called() {
        test(16, "a SITE is of a PARISH whose NAME is like that on THE PAD, HOW (what = 0)", x -> {
            named(x, 0, "ely", 10);
            named(x, 0, "ale", 20);
            named(x, 0, "els", 30);
            named(x, 0, "york", 40);
            write(x, "ely");
            isCalled(x, 0, 0, 999, 0, 10, 10, 19);
            isCalled(x, 0, 0, 999, 1, 20, 10, 29);
            isCalled(x, 0, 0, 999, 2, 20, 10, 39);
        });
        test(16, "a SITE is of a PARISH whose NAME is like that on THE PAD, HOW (what = 0)", "whichever parish it is", x -> {
            elys(x);
            isCalled(x, 0, 0, 999, 0, 30, 10, 49);
            isCalled(x, 5, 0, 999, 0, 10, 20, 29);
        });
        test(16, "a SITE is of a PARISH whose NAME is like that on THE PAD, HOW (what = 0)", "the last site", x -> {
            split(x, 0, 1 << 11, "b", 10);
            write(x, "b");
            isCalled(x, 11, 0, 999, 0, 990, 10, 999);
            isCalled(x, 10, 0, 999, 0, 0, NONE, NONE);
        });
        test(16, "a SITE is of a PARISH whose NAME is like that on THE PAD, HOW (what = 0)", "the pad stays", x -> {
            write(x, "ab");
            is("called(0, 0, 0, 2, 0)", x.called(0, 0, 0, 2, 0), 1);
            is("called(0, 0, 0, 0, 0)", x.called(0, 0, 0, 0, 0), 0);
            x.name(0, 0);
            isNamed(x, 0, 0, "ab");
        });
        test(16, "the first such YEAR (1; NONE)", x -> {
            elys(x);
            is("called(0, 0, 999, 0, 1)", x.called(0, 0, 999, 0, 1), 10);
            is("called(0, 15, 999, 0, 1)", x.called(0, 15, 999, 0, 1), 15);
            is("called(0, 30, 999, 0, 1)", x.called(0, 30, 999, 0, 1), 40);
            is("called(0, 30, 39, 0, 1)", x.called(0, 30, 39, 0, 1), NONE);
            is("called(0, 50, 999, 0, 1)", x.called(0, 50, 999, 0, 1), NONE);
        });
        test(16, "the last one (2; NONE)", x -> {
            elys(x);
            is("called(0, 0, 999, 0, 2)", x.called(0, 0, 999, 0, 2), 49);
            is("called(0, 0, 45, 0, 2)", x.called(0, 0, 45, 0, 2), 45);
            is("called(0, 0, 39, 0, 2)", x.called(0, 0, 39, 0, 2), 29);
            is("called(0, 30, 39, 0, 2)", x.called(0, 30, 39, 0, 2), NONE);
            is("called(0, 0, 9, 0, 2)", x.called(0, 0, 9, 0, 2), NONE);
        });
        test(16, "the first such YEAR (1; NONE)", "the year 0", x -> {
            write(x, "a");
            isCalled(x, 0, 0, 999, 0, 1000, 0, 999);
        });
    }

    private static void calledByYears() {
        test(16, "In how many YEARS from one to another one", "some of them", x -> {
            elys(x);
            isCalled(x, 0, 15, 44, 0, 20, 15, 44);
            isCalled(x, 0, 0, 10, 0, 1, 10, 10);
            isCalled(x, 0, 49, 999, 0, 1, 49, 49);
            isCalled(x, 0, 29, 40, 0, 2, 29, 40);
        });
        test(16, "In how many YEARS from one to another one", "none of them", x -> {
            elys(x);
            isCalled(x, 0, 0, 9, 0, 0, NONE, NONE);
            isCalled(x, 0, 30, 39, 0, 0, NONE, NONE);
            isCalled(x, 0, 50, 999, 0, 0, NONE, NONE);
        });
        test(16, "In how many YEARS from one to another one", "all of them", x -> {
            write(x, "a");
            isCalled(x, 0, 0, 999, 0, 1000, 0, 999);
            isCalled(x, 0, 100, 199, 0, 100, 100, 199);
        });
        test(16, "In how many YEARS from one to another one", "the first name, which it has no more", x -> {
            named(x, 0, "york", 20);
            write(x, "a");
            isCalled(x, 0, 0, 999, 0, 20, 0, 19);
            isCalled(x, 0, 19, 999, 0, 1, 19, 19);
            isCalled(x, 0, 20, 999, 0, 0, NONE, NONE);
        });
        test(16, "In how many YEARS from one to another one", "a name that held in no year", x -> {
            named(x, 0, "ely", 7);
            named(x, 0, "york", 7);
            write(x, "ely");
            isCalled(x, 0, 0, 999, 0, 0, NONE, NONE);
        });
        test(16, "(no less)", "the same year", x -> {
            elys(x);
            isCalled(x, 0, 10, 10, 0, 1, 10, 10);
            isCalled(x, 0, 9, 9, 0, 0, NONE, NONE);
            isCalled(x, 0, 50, 50, 0, 0, NONE, NONE);
        });
        test(16, "(no less)", "less", x -> {
            elys(x);
            for (int what = 0; what < 3; what++) is("called(0, 11, 10, 0, " + what + ")", x.called(0, 11, 10, 0, what), OUTSIDE);
        });
    }

    private static void calledRefused() {
        test(16, "UNKNOWN", x -> {
            write(x, "a");
            each("called(_, 0, 5, 0, 0)", UNKNOWN, site -> x.called(site, 0, 5, 0, 0), -1, 12, 31, 32, LEAST, MOST);
            each("called(_, 0, 5, 0, 0)", 6, site -> x.called(site, 0, 5, 0, 0), 0, 11);
        });
        test(16, "OUTSIDE: the YEARS", "the one", x -> {
            write(x, "a");
            each("called(0, _, 999, 0, 0)", OUTSIDE, from -> x.called(0, from, 999, 0, 0), -1, 1000, LEAST, MOST);
            is("called(0, 999, 999, 0, 0)", x.called(0, 999, 999, 0, 0), 1);
        });
        test(16, "OUTSIDE: the YEARS", "the other", x -> {
            write(x, "a");
            each("called(0, 0, _, 0, 0)", OUTSIDE, to -> x.called(0, 0, to, 0, 0), -1, 1000, LEAST, MOST);
            is("called(0, 0, 0, 0, 0)", x.called(0, 0, 0, 0, 0), 1);
        });
        test(16, "OUTSIDE: the YEARS", "both", x -> {
            write(x, "a");
            is("called(0, 1000, 1000, 0, 0)", x.called(0, 1000, 1000, 0, 0), OUTSIDE);
            is("called(0, -1, -1, 0, 0)", x.called(0, -1, -1, 0, 0), OUTSIDE);
        });
        test(16, "the YEARS, HOW", x -> {
            write(x, "a");
            each("called(0, 0, 5, _, 0)", OUTSIDE, how -> x.called(0, 0, 5, how, 0), -1, 3, LEAST, MOST);
            each("called(0, 0, 5, _, 0)", 6, how -> x.called(0, 0, 5, how, 0), 0, 1, 2);
        });
        test(16, "HOW, what;", x -> {
            write(x, "a");
            each("called(0, 0, 5, 0, _)", OUTSIDE, what -> x.called(0, 0, 5, 0, what), -1, 3, LEAST, MOST);
            is("called(0, 0, 5, 0, 2)", x.called(0, 0, 5, 0, 2), 5);
        });
        test(16, "FAULT", x -> {
            each("called(0, 0, 5, _, 0)", FAULT, how -> x.called(0, 0, 5, how, 0), 0, 1, 2);
            each("called(0, 0, 5, 0, _)", FAULT, what -> x.called(0, 0, 5, 0, what), 0, 1, 2);
            x.say(97);
            is("called(0, 0, 5, 0, 0)", x.called(0, 0, 5, 0, 0), 6);
        });
    }

    private static void off() {
        test(17, "OFF of the NAME on THE PAD and that of a PARISH in a YEAR", x -> {
            split(x, 0, 1, "bath", 10);
            named(x, 1, "wells", 20);
            write(x, "bat");
            is("off(0, 10)", x.off(0, 10), 2);
            is("off(1, 10)", x.off(1, 10), 1);
            is("off(1, 19)", x.off(1, 19), 1);
            is("off(1, 20)", x.off(1, 20), 5);
        });
        test(17, "OFF of the NAME on THE PAD and that of a PARISH in a YEAR", "0 and 8", x -> {
            named(x, 0, "bcdefghi", 0);
            write(x, "bcdefghi");
            is("off(0, 0) of the same", x.off(0, 0), 0);
            write(x, "z");
            is("off(0, 0) of z", x.off(0, 0), 8);
            write(x, "zzzzzzzz");
            is("off(0, 0) of zzzzzzzz", x.off(0, 0), 8);
        });
        test(17, "OFF of the NAME on THE PAD and that of a PARISH in a YEAR", "the pad stays", x -> {
            write(x, "bat");
            x.off(0, 0);
            is("off(0, 0)", x.off(0, 0), 2);
            is("count(2)", x.count(2), 3);
        });
        test(17, "NONE: that IS NOT THERE then", "not yet", x -> {
            split(x, 0, 1, "b", 10);
            write(x, "b");
            is("off(1, 9)", x.off(1, 9), NONE);
            is("off(1, 10)", x.off(1, 10), 0);
        });
        test(17, "NONE: that IS NOT THERE then", "no more", x -> {
            split(x, 0, 1, "b", 10);
            x.merge(1, 0, 20);
            write(x, "b");
            is("off(1, 19)", x.off(1, 19), 0);
            is("off(1, 20)", x.off(1, 20), NONE);
        });
    }

    private static void offRefused() {
        test(17, "UNKNOWN", x -> {
            write(x, "a");
            each("off(_, 0)", UNKNOWN, parish -> x.off(parish, 0), -1, 1, 16, 32, NONE, LEAST, MOST);
        });
        test(17, "OUTSIDE", x -> {
            write(x, "a");
            each("off(0, _)", OUTSIDE, year -> x.off(0, year), -1, 1000, LEAST, MOST);
            each("off(0, _)", 0, year -> x.off(0, year), 0, 999);
        });
        test(17, "FAULT", x -> {
            is("off(0, 0)", x.off(0, 0), FAULT);
            x.say(97);
            is("off(0, 0) of a", x.off(0, 0), 0);
        });
    }
}
