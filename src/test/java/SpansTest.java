/** Promises 18 and 19: span, heirs. */
public final class SpansTest extends Sentences {
    public static void main(String[] args) {
        all();
        end("SpansTest");
    }

    static void all() {
        span();
        spanRefused();
        heirs();
        heirsRefused();
    }

    /** Site 3 has four spans, site 4 three, site 5 three others. */
    private static void some(ParishNames x) {
        split(x, 0, 8, "b", 10);
        named(x, 0, "c", 20);
        named(x, 1, "b", 30);
        x.shift(0, 16, 1, 40);
        x.shift(1, 8, 0, 50);
        named(x, 0, "d", 999);
    }

    private static void span() {
        test(18, "How many SPANS a SITE has (i = -1", x -> {
            is("span(3, -1, 0) at first", x.span(3, -1, 0), 1);
            some(x);
            is("span(3, -1, 0)", x.span(3, -1, 0), 4);
            is("span(4, -1, 0)", x.span(4, -1, 0), 3);
            is("span(5, -1, 0)", x.span(5, -1, 0), 3);
        });
        test(18, "whatever what is, if it is 0 to 2)", "0 to 2", x -> {
            some(x);
            each("span(3, -1, _)", 4, what -> x.span(3, -1, what), 0, 1, 2);
        });
        test(18, "whatever what is, if it is 0 to 2)", "not 0 to 2", x -> {
            some(x);
            each("span(3, -1, _)", OUTSIDE, what -> x.span(3, -1, what), -1, 3, LEAST, MOST);
        });
        test(18, "of the i-th: the first YEAR (what = 0)", x -> {
            some(x);
            int[] want = {0, 10, 50, 999};
            for (int i = 0; i < want.length; i++) is("span(3, " + i + ", 0)", x.span(3, i, 0), want[i]);
        });
        test(18, "the last one (1)", x -> {
            some(x);
            int[] want = {9, 49, 998, 999};
            for (int i = 0; i < want.length; i++) is("span(3, " + i + ", 1)", x.span(3, i, 1), want[i]);
        });
        test(18, "the PARISH (2)", x -> {
            some(x);
            int[] want = {0, 1, 0, 0};
            for (int i = 0; i < want.length; i++) is("span(3, " + i + ", 2)", x.span(3, i, 2), want[i]);
        });
        test(18, "the PARISH (2)", "what holds behind all events of the year", x -> {
            split(x, 0, 3, "b", 10);
            split(x, 1, 1, "c", 10);
            spansAre(x, 0, span(0, 9, 0), span(10, 999, 2));
            spansAre(x, 1, span(0, 9, 0), span(10, 999, 1));
        });
        test(18, "the PARISH (2)", "of each site its own", x -> {
            some(x);
            spansAre(x, 4, span(0, 19, 0), span(20, 39, 0), span(40, 999, 1));
            spansAre(x, 5, span(0, 19, 0), span(20, 998, 0), span(999, 999, 0));
        });
        test(18, "NONE: there is none such", "behind the last one", x -> {
            some(x);
            for (int what = 0; what < 3; what++) {
                int asked = what;
                each("span(3, _, " + what + ")", NONE, i -> x.span(3, i, asked), 4, 5, 30, 31, 32, MOST);
            }
        });
        test(18, "NONE: there is none such", "behind the first and only one", x -> {
            is("span(0, 0, 1)", x.span(0, 0, 1), 999);
            each("span(0, _, 1)", NONE, i -> x.span(0, i, 1), 1, MOST);
        });
    }

    private static void spanRefused() {
        test(18, "UNKNOWN", x -> {
            each("span(_, 0, 1)", UNKNOWN, site -> x.span(site, 0, 1), -1, 12, 31, 32, LEAST, MOST);
            each("span(_, -1, 0)", UNKNOWN, site -> x.span(site, -1, 0), -1, 12);
            each("span(_, 0, 1)", 999, site -> x.span(site, 0, 1), 0, 11);
        });
        test(18, "OUTSIDE: i is below -1", x -> {
            for (int what = 0; what < 3; what++) {
                int asked = what;
                each("span(0, _, " + what + ")", OUTSIDE, i -> x.span(0, i, asked), -2, -6, LEAST);
            }
        });
        test(18, "below -1, what", x -> each("span(0, 0, _)", OUTSIDE, what -> x.span(0, 0, what), -1, 3, LEAST, MOST));
    }

    /** Parish 1 (sites 0 to 3) loses 0 and 1 to parish 2 in 20, that 0 to parish 0 in 30; 1 goes into 2 in 40. */
    private static void heritage(ParishNames x) {
        split(x, 0, 15, "b", 10);
        split(x, 1, 3, "c", 20);
        x.shift(2, 1, 0, 30);
        x.merge(1, 2, 40);
    }

    private static void heirs() {
        test(19, "Of the SITES that a PARISH has in a YEAR", x -> {
            heritage(x);
            is("heirs(1, 10, 30)", x.heirs(1, 10, 30), 7);
            is("heirs(1, 19, 30)", x.heirs(1, 19, 30), 7);
            is("heirs(1, 20, 30)", x.heirs(1, 20, 30), 2);
            is("heirs(2, 20, 30)", x.heirs(2, 20, 30), 5);
            is("heirs(2, 30, 30)", x.heirs(2, 30, 30), 4);
        });
        test(19, "the set of PARISHES that have any of them in another YEAR", x -> {
            heritage(x);
            is("heirs(0, 0, 9)", x.heirs(0, 0, 9), 1);
            is("heirs(0, 0, 10)", x.heirs(0, 0, 10), 3);
            is("heirs(0, 0, 20)", x.heirs(0, 0, 20), 7);
            is("heirs(0, 0, 40)", x.heirs(0, 0, 40), 5);
            is("heirs(1, 10, 39)", x.heirs(1, 10, 39), 7);
            is("heirs(1, 10, 40)", x.heirs(1, 10, 40), 5);
        });
        test(19, "the set of PARISHES that have any of them in another YEAR", "a parish a site", x -> {
            for (int i = 1; i < 12; i++) split(x, 0, 1 << i, "b", 1);
            is("heirs(0, 0, 1)", x.heirs(0, 0, 1), 4095);
        });
        test(19, "the set of PARISHES that have any of them in another YEAR", "the last parish of all", x -> {
            sixteenParishes(x);
            is("heirs(1, 1, 3)", x.heirs(1, 1, 3), 1 << 15);
        });
        test(19, "the set of PARISHES that have any of them in another YEAR", "the first and the last year", x -> {
            split(x, 0, 1, "b", 999);
            is("heirs(0, 0, 999)", x.heirs(0, 0, 999), 3);
            is("heirs(1, 999, 0)", x.heirs(1, 999, 0), 1);
        });
        test(19, "then (then may be less, or the same)", "less", x -> {
            heritage(x);
            is("heirs(2, 40, 20)", x.heirs(2, 40, 20), 6);
            is("heirs(2, 40, 19)", x.heirs(2, 40, 19), 2);
            is("heirs(2, 40, 0)", x.heirs(2, 40, 0), 1);
            is("heirs(0, 30, 29)", x.heirs(0, 30, 29), 5);
        });
        test(19, "then (then may be less, or the same)", "the same", x -> {
            heritage(x);
            is("heirs(0, 20, 20)", x.heirs(0, 20, 20), 1);
            is("heirs(1, 20, 20)", x.heirs(1, 20, 20), 2);
            is("heirs(2, 20, 20)", x.heirs(2, 20, 20), 4);
        });
        test(19, "0: it IS NOT THERE in the YEAR", "not yet", x -> {
            heritage(x);
            is("heirs(1, 9, 10)", x.heirs(1, 9, 10), 0);
            is("heirs(1, 10, 9)", x.heirs(1, 10, 9), 1);
        });
        test(19, "0: it IS NOT THERE in the YEAR", "no more", x -> {
            heritage(x);
            is("heirs(1, 40, 10)", x.heirs(1, 40, 10), 0);
            is("heirs(1, 39, 10)", x.heirs(1, 39, 10), 2);
        });
        test(19, "0: it IS NOT THERE in the YEAR", "never", x -> {
            parishOfNoYear(x, 10);
            is("heirs(1, 10, 10)", x.heirs(1, 10, 10), 0);
        });
    }

    private static void heirsRefused() {
        test(19, "UNKNOWN", x -> each("heirs(_, 0, 0)", UNKNOWN, parish -> x.heirs(parish, 0, 0), -1, 1, 16, 32, NONE, LEAST, MOST));
        test(19, "OUTSIDE: both YEARS", "the one", x -> {
            each("heirs(0, _, 0)", OUTSIDE, year -> x.heirs(0, year, 0), -1, 1000, LEAST, MOST);
            each("heirs(0, _, 0)", 1, year -> x.heirs(0, year, 0), 0, 999);
        });
        test(19, "OUTSIDE: both YEARS", "the other", x -> {
            each("heirs(0, 0, _)", OUTSIDE, then -> x.heirs(0, 0, then), -1, 1000, LEAST, MOST);
            each("heirs(0, 0, _)", 1, then -> x.heirs(0, 0, then), 0, 999);
        });
        test(19, "OUTSIDE: both YEARS", "the other, where it is not there", x -> {
            split(x, 0, 1, "b", 10);
            each("heirs(1, 9, _)", OUTSIDE, then -> x.heirs(1, 9, then), -1, 1000);
        });
    }
}
