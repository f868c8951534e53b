/** Promises 18 and 19: span, heirs. */
public final class SpansTest {
    private static final Due due = new Due();
    private static final int LEAST = Integer.MIN_VALUE, MOST = Integer.MAX_VALUE;

    public static void main(String[] args) {
        span();
        spansOfOneYear();
        spansMost();
        spanRefused();
        heirs();
        heirsRefused();
        due.end("SpansTest");
    }

    private static void span() {
        ParishNames x = new ParishNames();
        spans(x, 3, new int[][] {{0, 999, 0}});
        Due.split(x, 0, 8, "b", 10);
        Due.named(x, 0, "c", 20);
        Due.named(x, 1, "b", 30);
        x.shift(0, 16, 1, 40);
        x.shift(1, 8, 0, 50);
        Due.named(x, 0, "d", 999);
        spans(x, 3, new int[][] {{0, 9, 0}, {10, 49, 1}, {50, 998, 0}, {999, 999, 0}});
        spans(x, 4, new int[][] {{0, 19, 0}, {20, 39, 0}, {40, 999, 1}});
        spans(x, 5, new int[][] {{0, 19, 0}, {20, 998, 0}, {999, 999, 0}});
        ParishNames y = new ParishNames();
        Due.split(y, 0, 8, "a", 10);
        spans(y, 3, new int[][] {{0, 9, 0}, {10, 999, 1}});
        y.merge(1, 0, 20);
        spans(y, 3, new int[][] {{0, 9, 0}, {10, 19, 1}, {20, 999, 0}});
    }

    /** What is told and taken back in one year holds in no year, and ends no span. */
    private static void spansOfOneYear() {
        ParishNames x = new ParishNames();
        Due.named(x, 0, "b", 0);
        spans(x, 0, new int[][] {{0, 999, 0}});
        Due.named(x, 0, "c", 5);
        Due.named(x, 0, "b", 5);
        spans(x, 0, new int[][] {{0, 999, 0}});
        Due.split(x, 0, 1, "d", 7);
        x.merge(1, 0, 7);
        spans(x, 0, new int[][] {{0, 999, 0}});
        Due.split(x, 0, 1, "d", 999);
        spans(x, 0, new int[][] {{0, 998, 0}, {999, 999, 2}});
    }

    private static void spansMost() {
        ParishNames x = new ParishNames();
        int[][] want = new int[31][];
        for (int i = 0; i < 30; i++) Due.named(x, 0, i % 2 == 0 ? "b" : "a", 2 * i + 1);
        for (int i = 0; i <= 30; i++) want[i] = new int[] {i == 0 ? 0 : 2 * i - 1, i == 30 ? 999 : 2 * i, 0};
        spans(x, 11, want);
    }

    private static void spans(ParishNames x, int site, int[][] want) {
        for (int what = 0; what < 3; what++) {
            due.is("18 span(" + site + ", -1, " + what + ")", x.span(site, -1, what), want.length);
            for (int i = 0; i < want.length; i++) {
                due.is("18 span(" + site + ", " + i + ", " + what + ")", x.span(site, i, what), want[i][what]);
            }
            due.is("18 behind the last one", x.span(site, want.length, what), ParishNames.NONE);
            due.is("18 i most", x.span(site, MOST, what), ParishNames.NONE);
        }
    }

    private static void spanRefused() {
        ParishNames x = new ParishNames();
        due.is("18 UNKNOWN ahead of OUTSIDE", x.span(12, -2, 3), ParishNames.UNKNOWN);
        due.is("18 site -1", x.span(-1, 0, 0), ParishNames.UNKNOWN);
        due.is("18 i -2", x.span(0, -2, 0), ParishNames.OUTSIDE);
        due.is("18 i least", x.span(0, LEAST, 0), ParishNames.OUTSIDE);
        due.is("18 what 3", x.span(0, 0, 3), ParishNames.OUTSIDE);
        due.is("18 what -1", x.span(0, 0, -1), ParishNames.OUTSIDE);
        due.is("18 what 3 with i -1", x.span(0, -1, 3), ParishNames.OUTSIDE);
        due.is("18 OUTSIDE ahead of NONE", x.span(0, 1, 3), ParishNames.OUTSIDE);
    }

    private static void heirs() {
        ParishNames x = new ParishNames();
        due.is("19 itself", x.heirs(0, 0, 999), 1);
        Due.split(x, 0, 15, "b", 10);
        Due.split(x, 1, 3, "c", 20);
        x.shift(2, 1, 0, 30);
        x.merge(1, 2, 40);
        due.is("19 all", x.heirs(0, 0, 20), 7);
        due.is("19 the same year", x.heirs(0, 20, 20), 1);
        due.is("19 parish 1 then", x.heirs(1, 10, 20), 6);
        due.is("19 parish 1 later", x.heirs(1, 10, 30), 7);
        due.is("19 parish 1 behind the merger", x.heirs(1, 10, 40), 5);
        due.is("19 only what it has in that year", x.heirs(1, 20, 30), 2);
        due.is("19 then is less", x.heirs(2, 40, 20), 6);
        due.is("19 then is the first year", x.heirs(2, 40, 0), 1);
        due.is("19 not there yet", x.heirs(1, 9, 10), 0);
        due.is("19 no more there", x.heirs(1, 40, 10), 0);
        ParishNames y = new ParishNames();
        for (int i = 1; i < 12; i++) Due.split(y, 0, 1 << i, "b", 1);
        due.is("19 one heir a site", y.heirs(0, 0, 1), 4095);
        for (int i = 12; i < 16; i++) {
            y.merge(i == 12 ? 1 : i - 1, 0, 2);
            Due.split(y, 0, 2, "c", 2);
        }
        due.is("19 the last parish of all", y.heirs(0, 0, 2), 4095 - 2 + (1 << 15));
    }

    private static void heirsRefused() {
        ParishNames x = new ParishNames();
        due.is("19 UNKNOWN ahead of OUTSIDE", x.heirs(1, -1, 1000), ParishNames.UNKNOWN);
        due.is("19 parish -1", x.heirs(-1, 0, 0), ParishNames.UNKNOWN);
        due.is("19 year -1", x.heirs(0, -1, 0), ParishNames.OUTSIDE);
        due.is("19 year 1000", x.heirs(0, 1000, 0), ParishNames.OUTSIDE);
        due.is("19 then -1", x.heirs(0, 0, -1), ParishNames.OUTSIDE);
        due.is("19 then 1000", x.heirs(0, 0, 1000), ParishNames.OUTSIDE);
    }
}
