/** Promises 1 to 9: a new object, say, wipe, name, split, merge, shift, undo, event. */
public final class EventsTest {
    private static final Due due = new Due();
    private static final int LEAST = Integer.MIN_VALUE, MOST = Integer.MAX_VALUE;

    public static void main(String[] args) {
        newObject();
        say();
        wipe();
        name();
        nameRefused();
        split();
        splitRefused();
        splitFull();
        merge();
        mergeRefused();
        shift();
        shiftRefused();
        eventsFull();
        undo();
        event();
        due.end("EventsTest");
    }

    private static void newObject() {
        ParishNames x = new ParishNames();
        due.is("1 sites(0, 0)", x.sites(0, 0), 4095);
        due.is("1 sites(0, 999)", x.sites(0, 999), 4095);
        for (int site = 0; site < 12; site++) due.is("1 at(" + site + ", 0)", x.at(site, 0), 0);
        due.is("1 letter(0, 0, -1)", x.letter(0, 0, -1), 1);
        due.is("1 letter(0, 999, 0)", x.letter(0, 999, 0), 97);
        due.is("1 events", x.count(0), 0);
        due.is("1 parishes", x.count(1), 1);
        due.is("1 pad", x.count(2), 0);
        due.is("1 last year", x.count(3), 0);
        due.is("1 images", x.count(6), 0);
        due.is("1 restore(0)", x.restore(0), ParishNames.STATE);
        due.is("1 restore(1)", x.restore(1), ParishNames.STATE);
    }

    private static void say() {
        ParishNames x = new ParishNames();
        due.is("2 say(96)", x.say(96), ParishNames.OUTSIDE);
        due.is("2 say(123)", x.say(123), ParishNames.OUTSIDE);
        due.is("2 say(least)", x.say(LEAST), ParishNames.OUTSIDE);
        due.is("2 say(most)", x.say(MOST), ParishNames.OUTSIDE);
        due.is("2 say(97 + 256)", x.say(97 + 256), ParishNames.OUTSIDE);
        due.is("2 nothing said", x.count(2), 0);
        due.is("2 say(97)", x.say(97), 1);
        for (int k = 2; k <= 8; k++) due.is("2 say(122)", x.say(122), k);
        due.is("2 say the ninth", x.say(98), ParishNames.FULL);
        due.is("2 OUTSIDE ahead of FULL", x.say(96), ParishNames.OUTSIDE);
        due.is("2 still eight", x.count(2), 8);
        due.is("2 name", x.name(0, 3), 0);
        due.is("2 as said", Due.nameOf(x, 0, 3).equals("azzzzzzz") ? 1 : 0, 1);
    }

    private static void wipe() {
        ParishNames x = new ParishNames();
        due.is("3 wipe of nothing", x.wipe(), 0);
        Due.say(x, "abcdefgh");
        due.is("3 wipe of eight", x.wipe(), 8);
        due.is("3 pad is empty", x.count(2), 0);
        due.is("3 say behind wipe", x.say(98), 1);
        due.is("3 wipe of one", x.wipe(), 1);
        due.is("3 no name", x.name(0, 0), ParishNames.FAULT);
    }

    private static void name() {
        ParishNames x = new ParishNames();
        due.is("4 name(0, 40)", Due.named(x, 0, "ely", 40), 0);
        due.is("4 pad is empty", x.count(2), 0);
        due.is("4 before", Due.nameOf(x, 0, 39).equals("a") ? 1 : 0, 1);
        due.is("4 from that year on", Due.nameOf(x, 0, 40).equals("ely") ? 1 : 0, 1);
        due.is("4 till the end", Due.nameOf(x, 0, 999).equals("ely") ? 1 : 0, 1);
        due.is("4 in the same year", Due.named(x, 0, "ripon", 40), 1);
        due.is("4 the later one holds", Due.nameOf(x, 0, 40).equals("ripon") ? 1 : 0, 1);
        due.is("4 the same name", Due.named(x, 0, "ripon", 999), 2);
        due.is("4 in the year 999", Due.nameOf(x, 0, 999).equals("ripon") ? 1 : 0, 1);
        ParishNames y = new ParishNames();
        due.is("4 in year 0", Due.named(y, 0, "ely", 0), 0);
        due.is("4 holds in year 0", Due.nameOf(y, 0, 0).equals("ely") ? 1 : 0, 1);
    }

    private static void nameRefused() {
        ParishNames x = new ParishNames();
        due.is("4 UNKNOWN ahead of OUTSIDE", x.name(1, 1000), ParishNames.UNKNOWN);
        due.is("4 parish -1", x.name(-1, 0), ParishNames.UNKNOWN);
        due.is("4 parish least", x.name(LEAST, 0), ParishNames.UNKNOWN);
        due.is("4 parish most", x.name(MOST, 0), ParishNames.UNKNOWN);
        due.is("4 OUTSIDE ahead of FAULT", x.name(0, 1000), ParishNames.OUTSIDE);
        due.is("4 year -1", x.name(0, -1), ParishNames.OUTSIDE);
        due.is("4 FAULT", x.name(0, 5), ParishNames.FAULT);
        Due.split(x, 0, 1, "b", 10);
        x.merge(1, 0, 20);
        due.is("4 FAULT ahead of STATE", x.name(1, 19), ParishNames.FAULT);
        Due.say(x, "cc");
        due.is("4 STATE ahead of NO", x.name(1, 19), ParishNames.STATE);
        due.is("4 NO", x.name(1, 20), ParishNames.NO);
        due.is("4 refused: pad stays", x.count(2), 2);
        due.is("4 refused: no event", x.count(0), 2);
        due.is("4 no such year ahead of STATE", x.name(0, LEAST), ParishNames.OUTSIDE);
        due.is("4 the year of the last", x.name(0, 20), 2);
    }

    private static void split() {
        ParishNames x = new ParishNames();
        due.is("5 first", Due.split(x, 0, 0b110, "bath", 7), 1);
        due.is("5 pad is empty", x.count(2), 0);
        due.is("5 of the first one", x.sites(0, 7), 4095 - 6);
        due.is("5 of the new one", x.sites(1, 7), 6);
        due.is("5 before", x.sites(1, 6), 0);
        due.is("5 its name", Due.nameOf(x, 1, 7).equals("bath") ? 1 : 0, 1);
        due.is("5 the other keeps its own", Due.nameOf(x, 0, 7).equals("a") ? 1 : 0, 1);
        Due.named(x, 0, "wells", 7);
        due.is("5 number of the parish, not of the event", Due.split(x, 1, 2, "b", 7), 2);
        due.is("5 split of a split one", x.sites(1, 7), 4);
        due.is("5 at", x.at(1, 7), 2);
        due.is("5 events", x.count(0), 3);
        due.is("5 parishes", x.count(1), 3);
    }

    private static void splitRefused() {
        ParishNames x = new ParishNames();
        due.is("5 UNKNOWN ahead of OUTSIDE", x.split(1, -1, -1), ParishNames.UNKNOWN);
        due.is("5 parish -1", x.split(-1, 1, 0), ParishNames.UNKNOWN);
        due.is("5 set 4096, ahead of FAULT", x.split(0, 4096, 0), ParishNames.OUTSIDE);
        due.is("5 set -1", x.split(0, -1, 0), ParishNames.OUTSIDE);
        due.is("5 set least", x.split(0, LEAST, 0), ParishNames.OUTSIDE);
        due.is("5 year -1", x.split(0, 1, -1), ParishNames.OUTSIDE);
        due.is("5 year 1000", x.split(0, 1, 1000), ParishNames.OUTSIDE);
        due.is("5 FAULT ahead of NO", x.split(0, 0, 0), ParishNames.FAULT);
        Due.split(x, 0, 3, "b", 50);
        due.is("5 FAULT ahead of STATE", x.split(0, 4, 49), ParishNames.FAULT);
        Due.say(x, "c");
        due.is("5 STATE ahead of NO", x.split(0, 0, 49), ParishNames.STATE);
        due.is("5 the empty set", x.split(0, 0, 50), ParishNames.NO);
        due.is("5 the set of all sites", x.split(0, 4095, 50), ParishNames.NO);
        due.is("5 not its site", x.split(0, 5, 50), ParishNames.NO);
        due.is("5 all of its sites", x.split(1, 3, 50), ParishNames.NO);
        due.is("5 all and more", x.split(1, 7, 50), ParishNames.NO);
        due.is("5 all of the first one's", x.split(0, 4092, 50), ParishNames.NO);
        due.is("5 refused: pad stays", x.count(2), 1);
        due.is("5 refused: no parish", x.count(1), 2);
        x.merge(1, 0, 60);
        due.is("5 one that is not there", x.split(1, 1, 60), ParishNames.NO);
        due.is("5 now all are the first one's", x.split(0, 2, 60), 2);
    }

    private static void splitFull() {
        ParishNames x = new ParishNames();
        for (int parish = 1; parish < 12; parish++) {
            due.is("5 up to twelve", Due.split(x, 0, 1 << parish, "b", 1), parish);
        }
        for (int parish = 12; parish < 16; parish++) {
            x.merge(parish == 12 ? 1 : parish - 1, 0, 2);
            due.is("5 up to sixteen", Due.split(x, 0, 2, "c", 2), parish);
        }
        x.merge(2, 0, 3);
        Due.say(x, "d");
        due.is("5 a 17th parish", x.split(0, 4, 3), ParishNames.FULL);
        due.is("5 NO ahead of FULL", x.split(0, 2, 3), ParishNames.NO);
        due.is("5 refused: pad stays", x.count(2), 1);
        due.is("5 sixteen", x.count(1), 16);
        due.is("5 sites of the last one", x.sites(15, 3), 2);
        due.is("5 name though parishes are full", x.name(0, 3), 20);
        x.undo();
        x.undo();
        x.undo();
        due.is("5 fifteen behind undo", x.count(1), 15);
        due.is("5 there is room again", Due.split(x, 0, 2, "e", 3), 15);
    }

    private static void merge() {
        ParishNames x = new ParishNames();
        Due.split(x, 0, 3, "b", 5);
        Due.split(x, 0, 12, "c", 6);
        due.is("6 merge(1, 2, 8)", x.merge(1, 2, 8), 2);
        due.is("6 all are those of the other", x.sites(2, 8), 15);
        due.is("6 the other had", x.sites(2, 7), 12);
        due.is("6 the merged one had", x.sites(1, 7), 3);
        due.is("6 the merged one has none", x.sites(1, 8), 0);
        due.is("6 the other keeps its name", Due.nameOf(x, 2, 8).equals("c") ? 1 : 0, 1);
        due.is("6 the first one merged", x.merge(0, 2, 8), 3);
        due.is("6 all sites", x.sites(2, 8), 4095);
        Due.split(x, 2, 1, "dd", 9);
        x.say(101);
        x.merge(2, 3, 9);
        due.is("6 the pad stays", x.count(2), 1);
    }

    private static void mergeRefused() {
        ParishNames x = new ParishNames();
        due.is("6 UNKNOWN parish ahead of OUTSIDE", x.merge(1, 1, 1000), ParishNames.UNKNOWN);
        due.is("6 UNKNOWN into", x.merge(0, 1, 0), ParishNames.UNKNOWN);
        due.is("6 into -1", x.merge(0, -1, 0), ParishNames.UNKNOWN);
        due.is("6 parish -1", x.merge(-1, 0, 0), ParishNames.UNKNOWN);
        due.is("6 they are one", x.merge(0, 0, 0), ParishNames.OUTSIDE);
        Due.split(x, 0, 3, "b", 5);
        Due.split(x, 0, 12, "c", 6);
        x.merge(1, 2, 8);
        due.is("6 year 1000", x.merge(0, 2, 1000), ParishNames.OUTSIDE);
        due.is("6 year -1", x.merge(0, 2, -1), ParishNames.OUTSIDE);
        due.is("6 they are one, ahead of STATE", x.merge(1, 1, 7), ParishNames.OUTSIDE);
        due.is("6 STATE ahead of NO", x.merge(1, 2, 7), ParishNames.STATE);
        due.is("6 STATE", x.merge(0, 2, 7), ParishNames.STATE);
        due.is("6 it is not there", x.merge(1, 2, 8), ParishNames.NO);
        due.is("6 the other is not there", x.merge(0, 1, 8), ParishNames.NO);
        due.is("6 refused: nothing changed", x.count(0), 3);
    }

    private static void shift() {
        ParishNames x = new ParishNames();
        Due.split(x, 0, 3, "b", 5);
        x.say(122);
        due.is("7 shift(0, 48, 1, 5)", x.shift(0, 48, 1, 5), 1);
        due.is("7 the pad stays", x.count(2), 1);
        due.is("7 gained", x.sites(1, 5), 51);
        due.is("7 lost", x.sites(0, 5), 4095 - 51);
        due.is("7 shift back", x.shift(1, 17, 0, 9), 2);
        due.is("7 before", x.at(0, 8), 1);
        due.is("7 then", x.at(0, 9), 0);
        due.is("7 keeps its name", Due.nameOf(x, 1, 9).equals("b") ? 1 : 0, 1);
    }

    private static void shiftRefused() {
        ParishNames x = new ParishNames();
        due.is("7 UNKNOWN parish", x.shift(1, -1, 0, 1000), ParishNames.UNKNOWN);
        due.is("7 UNKNOWN to", x.shift(0, -1, 1, 1000), ParishNames.UNKNOWN);
        due.is("7 to -1", x.shift(0, 1, -1, 0), ParishNames.UNKNOWN);
        due.is("7 parish -1", x.shift(-1, 1, 0, 0), ParishNames.UNKNOWN);
        Due.split(x, 0, 3, "b", 5);
        Due.split(x, 0, 12, "c", 6);
        x.merge(1, 2, 8);
        due.is("7 they are one, ahead of STATE", x.shift(0, 16, 0, 7), ParishNames.OUTSIDE);
        due.is("7 set 4096", x.shift(0, 4096, 2, 7), ParishNames.OUTSIDE);
        due.is("7 set -1", x.shift(0, -1, 2, 7), ParishNames.OUTSIDE);
        due.is("7 year -1", x.shift(0, 16, 2, -1), ParishNames.OUTSIDE);
        due.is("7 year 1000", x.shift(0, 16, 2, 1000), ParishNames.OUTSIDE);
        due.is("7 STATE ahead of NO", x.shift(0, 0, 2, 7), ParishNames.STATE);
        due.is("7 the empty set", x.shift(0, 0, 2, 8), ParishNames.NO);
        due.is("7 the set of all sites", x.shift(0, 4095, 2, 8), ParishNames.NO);
        due.is("7 not its site", x.shift(0, 17, 2, 8), ParishNames.NO);
        due.is("7 all of its sites", x.shift(2, 15, 0, 8), ParishNames.NO);
        due.is("7 the other is not there", x.shift(0, 16, 1, 8), ParishNames.NO);
        due.is("7 it is not there", x.shift(1, 1, 0, 8), ParishNames.NO);
        due.is("7 refused: nothing changed", x.count(0), 3);
        due.is("7 in the year of the last", x.shift(0, 16, 2, 8), 3);
    }

    private static void eventsFull() {
        ParishNames x = new ParishNames();
        Due.split(x, 0, 3, "b", 5);
        for (int i = 1; i < 30; i++) due.is("4 up to thirty", Due.named(x, 0, "c", 5), i);
        x.say(100);
        due.is("4 FULL", x.name(0, 5), ParishNames.FULL);
        due.is("4 STATE ahead of FULL", x.name(0, 4), ParishNames.STATE);
        due.is("5 FULL", x.split(0, 16, 5), ParishNames.FULL);
        due.is("5 NO ahead of FULL", x.split(0, 1, 5), ParishNames.NO);
        due.is("6 FULL", x.merge(0, 1, 5), ParishNames.FULL);
        due.is("7 FULL", x.shift(0, 16, 1, 5), ParishNames.FULL);
        due.is("7 NO ahead of FULL", x.shift(0, 1, 1, 5), ParishNames.NO);
        due.is("4 refused: pad stays", x.count(2), 1);
        due.is("4 thirty", x.count(0), 30);
        due.is("9 the last one", x.event(29, 1), 5);
        due.is("9 behind the last one", x.event(30, 1), ParishNames.NONE);
        due.is("8 undo", x.undo(), 29);
        due.is("6 merge behind undo", x.merge(0, 1, 5), 29);
        due.is("6 NO ahead of FULL", x.merge(0, 1, 5), ParishNames.NO);
        due.is("4 NO ahead of FULL", x.name(0, 5), ParishNames.NO);
        due.is("6 holds", x.sites(1, 5), 4095);
    }

    private static void undo() {
        ParishNames x = new ParishNames();
        due.is("8 of nothing", x.undo(), ParishNames.NONE);
        Due.split(x, 0, 3, "b", 5);
        Due.named(x, 1, "c", 50);
        x.merge(0, 1, 60);
        x.say(122);
        due.is("8 merge undone", x.undo(), 2);
        due.is("8 it has its sites again", x.sites(0, 60), 4092);
        due.is("8 the pad stays", x.count(2), 1);
        due.is("8 year of the last", x.count(3), 50);
        due.is("8 name undone", x.undo(), 1);
        due.is("8 its name is the old one", Due.nameOf(x, 1, 50).equals("b") ? 1 : 0, 1);
        due.is("8 parishes stay", x.count(1), 2);
        due.is("8 split undone", x.undo(), 0);
        due.is("8 the parish goes", x.sites(1, 5), ParishNames.UNKNOWN);
        due.is("8 a lesser year is fine again", x.split(0, 1, 0), 1);
        due.is("8 shift", x.shift(0, 4, 1, 3), 1);
        due.is("8 shift undone", x.undo(), 1);
        due.is("8 sites", x.sites(1, 3), 1);
        due.is("8 undone", x.undo(), 0);
        due.is("8 nothing is left", x.undo(), ParishNames.NONE);
    }

    private static void event() {
        ParishNames x = new ParishNames();
        Due.split(x, 0, 7, "b", 5);
        Due.named(x, 1, "c", 6);
        Due.split(x, 1, 1, "d", 7);
        x.shift(0, 24, 2, 8);
        x.merge(2, 1, 9);
        int[][] want = {
            {1, 5, 0, 7, 1},
            {0, 6, 1, ParishNames.NONE, ParishNames.NONE},
            {1, 7, 1, 1, 2},
            {3, 8, 0, 24, 2},
            {2, 9, 2, 25, 1},
        };
        for (int i = 0; i < want.length; i++) {
            for (int what = 0; what < 5; what++) {
                due.is("9 event(" + i + ", " + what + ")", x.event(i, what), want[i][what]);
            }
        }
        due.is("9 behind the last one", x.event(5, 0), ParishNames.NONE);
        due.is("9 i -1", x.event(-1, 0), ParishNames.NONE);
        due.is("9 i least", x.event(LEAST, 4), ParishNames.NONE);
        due.is("9 i most", x.event(MOST, 4), ParishNames.NONE);
        due.is("9 what -1", x.event(0, -1), ParishNames.OUTSIDE);
        due.is("9 what 5", x.event(0, 5), ParishNames.OUTSIDE);
        due.is("9 OUTSIDE ahead of NONE", x.event(-1, 5), ParishNames.OUTSIDE);
        x.undo();
        due.is("9 an undone one", x.event(4, 0), ParishNames.NONE);
    }
}
