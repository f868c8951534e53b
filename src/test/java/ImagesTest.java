/** Promises 20 to 22: image, restore, count. */
public final class ImagesTest {
    private static final Due due = new Due();

    public static void main(String[] args) {
        image();
        restore();
        refused();
        count();
        countOfThere();
        countRefused();
        due.end("ImagesTest");
    }

    private static void image() {
        ParishNames x = new ParishNames();
        Due.split(x, 0, 1, "b", 10);
        due.is("20 image(0)", x.image(0), 1);
        due.is("20 kept", x.count(6), 1);
        Due.split(x, 0, 2, "c", 20);
        due.is("20 in its place", x.image(0), 1);
        x.undo();
        x.undo();
        x.restore(0);
        due.is("20 the later one was kept", x.count(0), 2);
        due.is("20 image(1)", x.image(1), 1);
        due.is("20 both are kept", x.count(6), 3);
        x.undo();
        x.image(0);
        x.restore(1);
        due.is("20 they are two", x.count(0), 2);
        x.restore(0);
        due.is("20 and the other", x.count(0), 1);
        ParishNames y = new ParishNames();
        y.image(1);
        due.is("20 only the second", y.count(6), 2);
        Due.split(y, 0, 1, "b", 10);
        y.restore(1);
        due.is("21 no such parish then", y.sites(1, 10), ParishNames.UNKNOWN);
        due.is("21 nor event", y.count(0), 0);
        due.is("21 the next is the first again", Due.split(y, 0, 2, "c", 5), 1);
    }

    private static void restore() {
        ParishNames x = new ParishNames();
        Due.split(x, 0, 7, "b", 10);
        Due.named(x, 1, "c", 20);
        x.shift(0, 8, 1, 30);
        Due.say(x, "xy");
        x.image(0);
        due.is("20 the pad stays", x.count(2), 2);
        x.wipe();
        x.undo();
        x.undo();
        x.undo();
        Due.split(x, 0, 2048, "d", 1);
        x.merge(0, 1, 2);
        Due.named(x, 1, "e", 3);
        Due.say(x, "z");
        due.is("21 restore(0)", x.restore(0), 1);
        due.is("21 the pad stays", x.count(2), 1);
        due.is("21 the image stays", x.count(6), 1);
        due.is("21 events", x.count(0), 3);
        due.is("21 parishes", x.count(1), 2);
        due.is("21 year of the last", x.count(3), 30);
        due.is("21 sites", x.sites(1, 30), 15);
        due.is("21 sites before", x.sites(1, 29), 7);
        due.is("21 name", Due.nameOf(x, 1, 20).equals("c") ? 1 : 0, 1);
        due.is("21 name before", Due.nameOf(x, 1, 19).equals("b") ? 1 : 0, 1);
        due.is("21 kind", x.event(2, 0), 3);
        due.is("21 set", x.event(2, 3), 8);
        due.is("21 whose", x.event(2, 4), 1);
        due.is("21 another event", x.name(0, 40), 3);
        due.is("21 once more", x.restore(0), 1);
        due.is("21 as it was kept", x.count(0), 3);
        due.is("21 its name, too", x.letter(0, 40, 0), 97);
        due.is("21 undo goes on", x.undo(), 2);
    }

    private static void refused() {
        ParishNames x = new ParishNames();
        due.is("20 k -1", x.image(-1), ParishNames.OUTSIDE);
        due.is("20 k 2", x.image(2), ParishNames.OUTSIDE);
        due.is("20 k least", x.image(Integer.MIN_VALUE), ParishNames.OUTSIDE);
        due.is("20 nothing was kept", x.count(6), 0);
        due.is("21 k -1", x.restore(-1), ParishNames.OUTSIDE);
        due.is("21 k 2", x.restore(2), ParishNames.OUTSIDE);
        x.image(0);
        due.is("21 the other was not kept", x.restore(1), ParishNames.STATE);
        Due.named(x, 0, "b", 5);
        x.restore(1);
        due.is("21 refused: nothing changed", x.count(0), 1);
    }

    private static void count() {
        ParishNames x = new ParishNames();
        counts(x, 0, 1, 0, 0, 1, 1, 0, 0, 0, 0);
        Due.split(x, 0, 7, "b", 10);
        Due.split(x, 0, 8, "c", 20);
        Due.named(x, 0, "b", 30);
        x.shift(0, 16, 1, 40);
        Due.say(x, "pad");
        counts(x, 4, 3, 3, 40, 3, 2, 1, 2, 0, 1);
        x.merge(2, 0, 50);
        counts(x, 5, 3, 3, 50, 2, 1, 1, 2, 1, 1);
        x.undo();
        x.undo();
        x.undo();
        counts(x, 2, 3, 3, 20, 3, 3, 0, 2, 0, 0);
        x.undo();
        counts(x, 1, 2, 3, 10, 2, 2, 0, 1, 0, 0);
    }

    /** The names of parishes that are no more there do not count, nor do names of before. */
    private static void countOfThere() {
        ParishNames x = new ParishNames();
        Due.split(x, 0, 1, "b", 10);
        Due.split(x, 0, 2, "b", 10);
        due.is("22 unlike names", x.count(5), 2);
        x.merge(1, 0, 10);
        due.is("22 the other has it still", x.count(5), 2);
        x.merge(2, 0, 10);
        due.is("22 only a", x.count(5), 1);
        due.is("22 there", x.count(4), 1);
        due.is("22 ever", x.count(1), 3);
        Due.split(x, 0, 1, "aa", 10);
        due.is("22 aa is not a", x.count(5), 2);
        x.merge(0, 3, 999);
        due.is("22 the first is not there", x.count(4), 1);
        due.is("22 its name does not count", x.count(5), 1);
    }

    private static void counts(ParishNames x, int... want) {
        int[] whats = {0, 1, 2, 3, 4, 5, 10, 11, 12, 13};
        for (int i = 0; i < whats.length; i++) due.is("22 count(" + whats[i] + ")", x.count(whats[i]), want[i]);
    }

    private static void countRefused() {
        ParishNames x = new ParishNames();
        int[] none = {-1, 7, 8, 9, 14, 15, Integer.MIN_VALUE, Integer.MAX_VALUE};
        for (int what : none) due.is("22 count(" + what + ")", x.count(what), ParishNames.OUTSIDE);
    }
}
