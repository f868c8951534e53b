/** Promises 10 to 14: at, sites, letter, sound, parish. */
public final class WhenTest {
    private static final Due due = new Due();
    private static final int LEAST = Integer.MIN_VALUE, MOST = Integer.MAX_VALUE;

    public static void main(String[] args) {
        at();
        sites();
        letter();
        classes();
        sound();
        parish();
        parishInNoYear();
        parishRefused();
        due.end("WhenTest");
    }

    private static void at() {
        ParishNames x = new ParishNames();
        Due.split(x, 0, 1 << 11, "b", 999);
        due.is("10 in 998", x.at(11, 998), 0);
        due.is("10 in 999", x.at(11, 999), 1);
        due.is("10 another site", x.at(10, 999), 0);
        due.is("10 site 12 ahead of OUTSIDE", x.at(12, 1000), ParishNames.UNKNOWN);
        due.is("10 site -1", x.at(-1, 0), ParishNames.UNKNOWN);
        due.is("10 site least", x.at(LEAST, 0), ParishNames.UNKNOWN);
        due.is("10 site 32", x.at(32, 0), ParishNames.UNKNOWN);
        due.is("10 year -1", x.at(0, -1), ParishNames.OUTSIDE);
        due.is("10 year 1000", x.at(0, 1000), ParishNames.OUTSIDE);
    }

    private static void sites() {
        ParishNames x = new ParishNames();
        Due.split(x, 0, 1, "b", 10);
        x.merge(0, 1, 20);
        due.is("11 before the split", x.sites(1, 9), 0);
        due.is("11 behind it", x.sites(1, 10), 1);
        due.is("11 before the merger", x.sites(0, 19), 4094);
        due.is("11 is not there", x.sites(0, 20), 0);
        due.is("11 has all", x.sites(1, 999), 4095);
        due.is("11 UNKNOWN ahead of OUTSIDE", x.sites(2, -1), ParishNames.UNKNOWN);
        due.is("11 parish -1", x.sites(-1, 0), ParishNames.UNKNOWN);
        due.is("11 parish most", x.sites(MOST, 0), ParishNames.UNKNOWN);
        due.is("11 year -1", x.sites(0, -1), ParishNames.OUTSIDE);
        due.is("11 year 1000", x.sites(0, 1000), ParishNames.OUTSIDE);
    }

    private static void letter() {
        ParishNames x = new ParishNames();
        Due.split(x, 0, 1, "abcdwxyz", 10);
        due.is("12 how many", x.letter(1, 10, -1), 8);
        String name = "abcdwxyz";
        for (int k = 0; k < 8; k++) due.is("12 letter " + k, x.letter(1, 10, k), name.charAt(k));
        due.is("12 k 8", x.letter(1, 10, 8), ParishNames.NONE);
        due.is("12 k most", x.letter(1, 10, MOST), ParishNames.NONE);
        due.is("12 k 1 of a", x.letter(0, 10, 1), ParishNames.NONE);
        due.is("12 not there yet, how many", x.letter(1, 9, -1), ParishNames.NONE);
        due.is("12 not there yet, k 0", x.letter(1, 9, 0), ParishNames.NONE);
        x.merge(1, 0, 20);
        due.is("12 still there", x.letter(1, 19, 0), 97);
        due.is("12 no more there, how many", x.letter(1, 20, -1), ParishNames.NONE);
        due.is("12 no more there, k 0", x.letter(1, 20, 0), ParishNames.NONE);
        due.is("12 UNKNOWN ahead of OUTSIDE", x.letter(2, 1000, -2), ParishNames.UNKNOWN);
        due.is("12 parish -1", x.letter(-1, 0, 0), ParishNames.UNKNOWN);
        due.is("12 year 1000", x.letter(0, 1000, 0), ParishNames.OUTSIDE);
        due.is("12 year -1", x.letter(0, -1, 0), ParishNames.OUTSIDE);
        due.is("12 k -2", x.letter(0, 0, -2), ParishNames.OUTSIDE);
        due.is("12 k least", x.letter(0, 0, LEAST), ParishNames.OUTSIDE);
        due.is("12 OUTSIDE ahead of NONE", x.letter(1, 9, -2), ParishNames.OUTSIDE);
    }

    /** Each letter alone, and behind a letter of another class. */
    private static void classes() {
        String[] ofClass = {"aehiouwy", "bfpv", "cgjkqsxz", "dt", "l", "mn", "r"};
        int letters = 0;
        for (int c = 0; c < ofClass.length; c++) {
            for (int k = 0; k < ofClass[c].length(); k++) {
                char letter = ofClass[c].charAt(k);
                hears(String.valueOf(letter), String.valueOf(c));
                hears("a" + letter, c == 0 ? "0" : "0" + c);
                hears("" + letter + letter, String.valueOf(c));
                letters++;
            }
        }
        due.is("13 letters with a class", letters, 26);
    }

    private static void sound() {
        hears("tata", "33");
        hears("aeiou", "0");
        hears("mnmn", "5");
        hears("pfaq", "12");
        hears("bcdlmr", "1234");
        hears("bcdlmrbc", "1234");
        hears("ashcroft", "0226");
        hears("sch", "2");
        hears("shs", "22");
        hears("aaab", "01");
        hears("bab", "11");
        hears("bbab", "11");
        hears("rlrlrlrl", "6464");
        hears("abababab", "0111");
        ParishNames x = new ParishNames();
        Due.split(x, 0, 1, "dover", 10);
        x.merge(1, 0, 20);
        due.is("13 not there yet, how many", x.sound(1, 9, -1), ParishNames.NONE);
        due.is("13 not there yet, k 0", x.sound(1, 9, 0), ParishNames.NONE);
        due.is("13 there", x.sound(1, 19, 2), 6);
        due.is("13 no more there", x.sound(1, 20, 0), ParishNames.NONE);
        due.is("13 UNKNOWN ahead of OUTSIDE", x.sound(2, 1000, -2), ParishNames.UNKNOWN);
        due.is("13 parish -1", x.sound(-1, 0, 0), ParishNames.UNKNOWN);
        due.is("13 year -1", x.sound(0, -1, 0), ParishNames.OUTSIDE);
        due.is("13 year 1000", x.sound(0, 1000, 0), ParishNames.OUTSIDE);
        due.is("13 k -2", x.sound(0, 0, -2), ParishNames.OUTSIDE);
        due.is("13 OUTSIDE ahead of NONE", x.sound(1, 9, -2), ParishNames.OUTSIDE);
        due.is("13 k most", x.sound(0, 0, MOST), ParishNames.NONE);
    }

    private static void hears(String name, String classes) {
        ParishNames x = new ParishNames();
        Due.named(x, 0, name, 0);
        due.is("13 how many of " + name, x.sound(0, 0, -1), classes.length());
        for (int k = 0; k < classes.length(); k++) {
            due.is("13 class " + k + " of " + name, x.sound(0, 0, k), classes.charAt(k) - '0');
        }
        due.is("13 behind the last of " + name, x.sound(0, 0, classes.length()), ParishNames.NONE);
    }

    private static void parish() {
        ParishNames x = new ParishNames();
        tells(x, 0, 0, 999, 1000, 0, 12);
        Due.split(x, 0, 7, "b", 5);
        tells(x, 0, 0, 999, 1000, 1, 12);
        tells(x, 1, 5, 999, 995, 1, 3);
        Due.named(x, 1, "c", 6);
        x.shift(0, 24, 1, 8);
        x.shift(1, 1, 0, 8);
        tells(x, 1, 5, 999, 995, 4, 5);
        x.shift(0, 1, 1, 9);
        x.merge(1, 0, 20);
        tells(x, 1, 5, 19, 15, 6, 5);
        tells(x, 0, 0, 999, 1000, 5, 12);
        Due.split(x, 0, 1, "d", 999);
        tells(x, 2, 999, 999, 1, 1, 1);
        x.merge(0, 2, 999);
        tells(x, 0, 0, 998, 999, 7, 12);
        tells(x, 2, 999, 999, 1, 2, 12);
    }

    /** A site that a parish had only between two events of one year was its in no year. */
    private static void parishInNoYear() {
        ParishNames x = new ParishNames();
        Due.split(x, 0, 7, "b", 0);
        tells(x, 0, 0, 999, 1000, 1, 9);
        x.shift(0, 24, 1, 0);
        x.shift(1, 8, 0, 0);
        tells(x, 1, 0, 999, 1000, 3, 4);
        Due.split(x, 1, 1, "c", 30);
        x.merge(2, 0, 30);
        tells(x, 2, ParishNames.NONE, ParishNames.NONE, 0, 2, 0);
        x.merge(1, 0, 30);
        tells(x, 1, 0, 29, 30, 5, 4);
        ParishNames y = new ParishNames();
        Due.split(y, 0, 1, "b", 0);
        y.merge(0, 1, 0);
        tells(y, 0, ParishNames.NONE, ParishNames.NONE, 0, 2, 0);
        tells(y, 1, 0, 999, 1000, 2, 12);
    }

    private static void tells(ParishNames x, int parish, int first, int last, int years, int events, int sites) {
        due.is("14 parish(" + parish + ", 0)", x.parish(parish, 0), first);
        due.is("14 parish(" + parish + ", 1)", x.parish(parish, 1), last);
        due.is("14 parish(" + parish + ", 2)", x.parish(parish, 2), years);
        due.is("14 parish(" + parish + ", 3)", x.parish(parish, 3), events);
        due.is("14 parish(" + parish + ", 4)", x.parish(parish, 4), sites);
    }

    private static void parishRefused() {
        ParishNames x = new ParishNames();
        due.is("14 UNKNOWN ahead of OUTSIDE", x.parish(1, 5), ParishNames.UNKNOWN);
        due.is("14 parish -1", x.parish(-1, 0), ParishNames.UNKNOWN);
        due.is("14 parish -6", x.parish(ParishNames.NONE, 3), ParishNames.UNKNOWN);
        due.is("14 what -1", x.parish(0, -1), ParishNames.OUTSIDE);
        due.is("14 what 5", x.parish(0, 5), ParishNames.OUTSIDE);
        Due.split(x, 0, 1, "b", 5);
        due.is("14 known", x.parish(1, 0), 5);
        x.undo();
        due.is("14 undone", x.parish(1, 0), ParishNames.UNKNOWN);
    }
}
