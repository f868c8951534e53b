/** Promises 15 to 17: find, called, off. */
public final class LettersTest {
    private static final Due due = new Due();
    private static final int LEAST = Integer.MIN_VALUE, MOST = Integer.MAX_VALUE;

    public static void main(String[] args) {
        find();
        findByYears();
        findRefused();
        called();
        calledRefused();
        off();
        offRefused();
        due.end("LettersTest");
    }

    private static void find() {
        ParishNames x = new ParishNames();
        Due.split(x, 0, 1, "bury", 10);
        Due.split(x, 0, 2, "berry", 10);
        Due.split(x, 0, 4, "bur", 10);
        Due.split(x, 0, 8, "bury", 10);
        Due.split(x, 0, 16, "hull", 10);
        Due.say(x, "bury");
        finds(x, 0, 999, 0, 1, 4);
        finds(x, 0, 999, 1, 1, 2, 3, 4);
        finds(x, 0, 999, 2, 1, 3, 4);
        x.wipe();
        Due.say(x, "b");
        finds(x, 0, 999, 0);
        finds(x, 0, 999, 1);
        finds(x, 0, 999, 2, 0);
        x.wipe();
        Due.say(x, "e");
        finds(x, 0, 999, 1, 0);
        x.wipe();
        Due.say(x, "lul");
        finds(x, 0, 999, 1);
        x.wipe();
        Due.say(x, "wall");
        finds(x, 0, 999, 1, 5);
        due.is("15 the pad stays", x.wipe(), 4);
        Due.named(x, 5, "bcdlm", 20);
        Due.say(x, "pgtlrr");
        finds(x, 0, 999, 1, 5);
        due.is("16 alike up to the fourth class", x.called(4, 0, 999, 1, 1), 20);
    }

    private static void findByYears() {
        ParishNames x = new ParishNames();
        Due.split(x, 0, 1, "ely", 10);
        Due.named(x, 0, "ely", 20);
        Due.named(x, 0, "york", 30);
        Due.named(x, 1, "bath", 30);
        Due.named(x, 1, "ely", 40);
        x.merge(1, 0, 50);
        Due.named(x, 0, "leeds", 60);
        Due.named(x, 0, "york", 60);
        Due.say(x, "ely");
        finds(x, 0, 9, 0);
        finds(x, 10, 10, 0, 1);
        finds(x, 19, 19, 0, 1);
        finds(x, 0, 20, 0, 0, 1);
        finds(x, 29, 29, 0, 0, 1);
        finds(x, 30, 39, 0);
        finds(x, 30, 40, 0, 1);
        finds(x, 49, 999, 0, 1);
        finds(x, 50, 999, 0);
        x.wipe();
        Due.say(x, "leeds");
        finds(x, 0, 999, 0);
        x.wipe();
        Due.say(x, "a");
        finds(x, 0, 0, 0, 0);
        finds(x, 19, 999, 0, 0);
        finds(x, 20, 999, 0);
    }

    private static void finds(ParishNames x, int from, int to, int how, int... parishes) {
        String call = "15 find(" + from + ", " + to + ", " + how + ", ";
        due.is(call + "-1)", x.find(from, to, how, -1), parishes.length);
        for (int i = 0; i < parishes.length; i++) {
            due.is(call + i + ")", x.find(from, to, how, i), parishes[i]);
        }
        due.is(call + parishes.length + ")", x.find(from, to, how, parishes.length), ParishNames.NONE);
        due.is(call + "most)", x.find(from, to, how, MOST), ParishNames.NONE);
    }

    private static void findRefused() {
        ParishNames x = new ParishNames();
        due.is("15 OUTSIDE ahead of FAULT", x.find(0, 1000, 0, 0), ParishNames.OUTSIDE);
        due.is("15 FAULT", x.find(0, 999, 0, -1), ParishNames.FAULT);
        Due.say(x, "a");
        due.is("15 from -1", x.find(-1, 5, 0, 0), ParishNames.OUTSIDE);
        due.is("15 from 1000", x.find(1000, 1000, 0, 0), ParishNames.OUTSIDE);
        due.is("15 to 1000", x.find(0, 1000, 0, 0), ParishNames.OUTSIDE);
        due.is("15 to less", x.find(6, 5, 0, 0), ParishNames.OUTSIDE);
        due.is("15 one year", x.find(5, 5, 0, 0), 0);
        due.is("15 how -1", x.find(0, 5, -1, 0), ParishNames.OUTSIDE);
        due.is("15 how 3", x.find(0, 5, 3, 0), ParishNames.OUTSIDE);
        due.is("15 i -2", x.find(0, 5, 0, -2), ParishNames.OUTSIDE);
        due.is("15 i least", x.find(0, 5, 0, LEAST), ParishNames.OUTSIDE);
    }

    private static void called() {
        ParishNames x = new ParishNames();
        Due.split(x, 0, 1, "ely", 10);
        Due.named(x, 0, "ely", 20);
        Due.named(x, 1, "elie", 30);
        x.merge(1, 0, 40);
        Due.named(x, 0, "york", 50);
        Due.named(x, 0, "elly", 900);
        Due.say(x, "ely");
        calls(x, 0, 0, 999, 0, 30, 10, 49);
        calls(x, 0, 15, 44, 0, 20, 15, 44);
        calls(x, 0, 30, 39, 0, 0, ParishNames.NONE, ParishNames.NONE);
        calls(x, 0, 30, 40, 0, 1, 40, 40);
        calls(x, 0, 0, 999, 1, 140, 10, 999);
        calls(x, 0, 0, 999, 2, 130, 10, 999);
        calls(x, 5, 0, 999, 0, 30, 20, 49);
        calls(x, 5, 0, 19, 0, 0, ParishNames.NONE, ParishNames.NONE);
        calls(x, 5, 49, 49, 0, 1, 49, 49);
        calls(x, 5, 50, 50, 0, 0, ParishNames.NONE, ParishNames.NONE);
        due.is("16 the pad stays", x.wipe(), 3);
        Due.say(x, "a");
        calls(x, 0, 0, 999, 0, 10, 0, 9);
        calls(x, 0, 0, 0, 1, 1, 0, 0);
        ParishNames y = new ParishNames();
        Due.named(y, 0, "ely", 7);
        Due.named(y, 0, "york", 7);
        Due.say(y, "ely");
        calls(y, 0, 0, 999, 0, 0, ParishNames.NONE, ParishNames.NONE);
    }

    private static void calls(ParishNames x, int site, int from, int to, int how, int... want) {
        for (int what = 0; what < 3; what++) {
            String call = "16 called(" + site + ", " + from + ", " + to + ", " + how + ", " + what + ")";
            due.is(call, x.called(site, from, to, how, what), want[what]);
        }
    }

    private static void calledRefused() {
        ParishNames x = new ParishNames();
        due.is("16 UNKNOWN ahead of OUTSIDE", x.called(12, 5, 4, 3, 3), ParishNames.UNKNOWN);
        due.is("16 site -1", x.called(-1, 0, 5, 0, 0), ParishNames.UNKNOWN);
        due.is("16 OUTSIDE ahead of FAULT", x.called(0, 0, 5, 0, 3), ParishNames.OUTSIDE);
        due.is("16 FAULT", x.called(0, 0, 5, 0, 0), ParishNames.FAULT);
        Due.say(x, "b");
        due.is("16 from -1", x.called(0, -1, 5, 0, 0), ParishNames.OUTSIDE);
        due.is("16 to 1000", x.called(0, 0, 1000, 0, 0), ParishNames.OUTSIDE);
        due.is("16 to less", x.called(0, 6, 5, 0, 0), ParishNames.OUTSIDE);
        due.is("16 how -1", x.called(0, 0, 5, -1, 0), ParishNames.OUTSIDE);
        due.is("16 how 3", x.called(0, 0, 5, 3, 0), ParishNames.OUTSIDE);
        due.is("16 what -1", x.called(0, 0, 5, 0, -1), ParishNames.OUTSIDE);
        due.is("16 what 3", x.called(0, 0, 5, 0, 3), ParishNames.OUTSIDE);
        due.is("16 none", x.called(0, 0, 5, 0, 1), ParishNames.NONE);
    }

    private static void off() {
        isOff("a", "a", 0);
        isOff("a", "b", 1);
        isOff("abcdefgh", "abcdefgh", 0);
        isOff("abcdefgh", "z", 8);
        isOff("abcdefgh", "h", 7);
        isOff("abcdefgh", "bcdefgha", 2);
        isOff("abcdefgh", "ijklmnop", 8);
        isOff("ab", "ba", 2);
        isOff("kitten", "sitting", 3);
        isOff("sunday", "saturday", 3);
        isOff("aaaa", "aa", 2);
        isOff("bury", "berry", 2);
        isOff("bury", "buxry", 1);
        isOff("york", "ork", 1);
        isOff("york", "yor", 1);
        ParishNames x = new ParishNames();
        Due.split(x, 0, 1, "bath", 10);
        x.merge(1, 0, 20);
        Due.say(x, "bat");
        due.is("17 not there yet", x.off(1, 9), ParishNames.NONE);
        due.is("17 there", x.off(1, 10), 1);
        due.is("17 still there", x.off(1, 19), 1);
        due.is("17 no more there", x.off(1, 20), ParishNames.NONE);
        due.is("17 the pad stays", x.count(2), 3);
    }

    private static void isOff(String one, String other, int want) {
        ParishNames x = new ParishNames();
        Due.named(x, 0, one, 0);
        Due.say(x, other);
        due.is("17 off of " + one + " and " + other, x.off(0, 0), want);
        x.wipe();
        Due.named(x, 0, other, 0);
        Due.say(x, one);
        due.is("17 off of " + other + " and " + one, x.off(0, 0), want);
        due.is("15 nearly " + other + ", " + one, x.find(0, 0, 2, -1), want <= 1 ? 1 : 0);
    }

    private static void offRefused() {
        ParishNames x = new ParishNames();
        due.is("17 UNKNOWN ahead of OUTSIDE", x.off(1, 1000), ParishNames.UNKNOWN);
        due.is("17 parish -1", x.off(-1, 0), ParishNames.UNKNOWN);
        due.is("17 OUTSIDE ahead of FAULT", x.off(0, 1000), ParishNames.OUTSIDE);
        due.is("17 year -1", x.off(0, -1), ParishNames.OUTSIDE);
        due.is("17 FAULT", x.off(0, 0), ParishNames.FAULT);
        Due.split(x, 0, 1, "bath", 10);
        due.is("17 FAULT ahead of NONE", x.off(1, 9), ParishNames.FAULT);
    }
}
