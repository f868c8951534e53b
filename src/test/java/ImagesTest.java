/** Promises 20 to 22: image, restore, count. */
public final class ImagesTest extends Sentences {
    public static void main(String[] args) {
        all();
        end("ImagesTest");
    }

    static void all() {
        image();
        restore();
        restoreRefused();
        count();
        countOfThere();
        countOfKinds();
    }

    private static void image() {
        test(20, "All but THE PAD and IMAGES is kept in an IMAGE (0, 1)", "the first", x -> {
            split(x, 0, 1, "b", 10);
            x.image(0);
            x.undo();
            x.restore(0);
            is("count(0)", x.count(0), 1);
            is("sites(1, 10)", x.sites(1, 10), 1);
            is("count(6)", x.count(6), 1);
        });
        test(20, "All but THE PAD and IMAGES is kept in an IMAGE (0, 1)", "the second", x -> {
            split(x, 0, 1, "b", 10);
            x.image(1);
            x.undo();
            x.restore(1);
            is("count(0)", x.count(0), 1);
            is("sites(1, 10)", x.sites(1, 10), 1);
            is("count(6)", x.count(6), 2);
        });
        test(20, "All but THE PAD and IMAGES is kept in an IMAGE (0, 1)", "both, unlike", x -> {
            x.image(0);
            split(x, 0, 1, "b", 10);
            x.image(1);
            x.restore(0);
            is("count(0) of the first", x.count(0), 0);
            x.restore(1);
            is("count(0) of the second", x.count(0), 1);
            x.restore(0);
            is("count(0) of the first again", x.count(0), 0);
        });
        test(20, "All but THE PAD and IMAGES is kept in an IMAGE (0, 1)", "nothing told yet", x -> {
            x.image(0);
            split(x, 0, 1, "b", 10);
            x.restore(0);
            is("count(0)", x.count(0), 0);
            is("sites(1, 10)", x.sites(1, 10), UNKNOWN);
            is("the next is the first", split(x, 0, 2, "c", 5), 1);
        });
        test(20, "All but THE PAD and IMAGES is kept in an IMAGE (0, 1)", "30 events", x -> {
            fill(x, 0, 5, 29);
            named(x, 0, "z", 7);
            x.image(0);
            for (int i = 0; i < 30; i++) x.undo();
            x.restore(0);
            is("count(0)", x.count(0), 30);
            is("event(29, 1)", x.event(29, 1), 7);
            isNamed(x, 0, 7, "z");
        });
        test(20, "All but THE PAD and IMAGES is kept in an IMAGE (0, 1)", "what is told later is not in it", x -> {
            split(x, 0, 1, "b", 10);
            x.image(0);
            named(x, 1, "c", 10);
            x.undo();
            x.undo();
            split(x, 0, 2, "d", 3);
            x.restore(0);
            is("event(0, 1)", x.event(0, 1), 10);
            is("event(0, 3)", x.event(0, 3), 1);
            isNamed(x, 1, 10, "b");
        });
        test(20, "All but THE PAD and IMAGES is kept in an IMAGE (0, 1)", "the pad stays", x -> {
            say(x, "xy");
            x.image(0);
            is("count(2)", x.count(2), 2);
            x.name(0, 0);
            isNamed(x, 0, 0, "xy");
        });
        test(20, "in place of what was kept there", x -> {
            split(x, 0, 1, "b", 10);
            x.image(0);
            named(x, 0, "c", 20);
            x.image(0);
            x.undo();
            x.undo();
            x.restore(0);
            is("count(0)", x.count(0), 2);
        });
        test(20, "in place of what was kept there", "less than before", x -> {
            split(x, 0, 1, "b", 10);
            named(x, 0, "c", 20);
            x.image(1);
            x.undo();
            x.image(1);
            named(x, 0, "d", 30);
            x.restore(1);
            is("count(0)", x.count(0), 1);
            is("event(1, 0)", x.event(1, 0), NONE);
        });
        test(20, "in place of what was kept there", "the other stays", x -> {
            split(x, 0, 1, "b", 10);
            x.image(0);
            x.undo();
            x.image(1);
            x.image(1);
            x.restore(0);
            is("count(0)", x.count(0), 1);
        });
        test(20, ": 1", x -> {
            is("image(0)", x.image(0), 1);
            is("image(0) again", x.image(0), 1);
            is("image(1)", x.image(1), 1);
        });
        test(20, "OUTSIDE", x -> {
            each("image(_)", OUTSIDE, x::image, -1, 2, 3, 31, 32, 33, LEAST, MOST);
            is("count(6)", x.count(6), 0);
            is("restore(0)", x.restore(0), STATE);
            is("restore(1)", x.restore(1), STATE);
        });
    }

    private static void restore() {
        test(21, "All but THE PAD and IMAGES is as it was when it was kept", x -> {
            split(x, 0, 7, "b", 10);
            named(x, 1, "c", 20);
            x.shift(0, 8, 1, 30);
            x.image(0);
            for (int i = 0; i < 3; i++) x.undo();
            split(x, 0, 2048, "d", 1);
            x.merge(0, 1, 2);
            named(x, 1, "e", 3);
            named(x, 1, "f", 4);
            x.restore(0);
            is("count(0)", x.count(0), 3);
            is("count(1)", x.count(1), 2);
            is("count(3)", x.count(3), 30);
            is("sites(1, 29)", x.sites(1, 29), 7);
            is("sites(1, 30)", x.sites(1, 30), 15);
            is("sites(0, 30)", x.sites(0, 30), 4080);
            isNamed(x, 0, 30, "a");
            isNamed(x, 1, 19, "b");
            isNamed(x, 1, 20, "c");
            int[][] want = {{1, 10, 0, 7, 1}, {0, 20, 1, NONE, NONE}, {3, 30, 0, 8, 1}};
            for (int i = 0; i < 3; i++) {
                for (int what = 0; what < 5; what++) is("event(" + i + ", " + what + ")", x.event(i, what), want[i][what]);
            }
        });
        test(21, "All but THE PAD and IMAGES is as it was when it was kept", "MERGED, too", x -> {
            split(x, 0, 7, "b", 10);
            x.merge(0, 1, 20);
            x.image(0);
            x.undo();
            x.undo();
            x.restore(0);
            is("event(1, 0)", x.event(1, 0), 2);
            is("event(1, 3)", x.event(1, 3), 4088);
            is("sites(1, 20)", x.sites(1, 20), 4095);
            is("count(4)", x.count(4), 1);
        });
        test(21, "All but THE PAD and IMAGES is as it was when it was kept", "it goes on from there", x -> {
            split(x, 0, 7, "b", 10);
            x.image(0);
            named(x, 0, "c", 500);
            x.restore(0);
            is("a year less than the later one's", named(x, 0, "d", 10), 1);
            is("undo()", x.undo(), 1);
            is("undo() of what was restored", x.undo(), 0);
        });
        test(21, "All but THE PAD and IMAGES is as it was when it was kept", "the pad is not", x -> {
            say(x, "xy");
            x.image(0);
            write(x, "z");
            x.restore(0);
            is("count(2)", x.count(2), 1);
            x.name(0, 0);
            isNamed(x, 0, 0, "z");
        });
        test(21, "All but THE PAD and IMAGES is as it was when it was kept", "an empty pad stays empty", x -> {
            say(x, "xy");
            x.image(0);
            x.wipe();
            x.restore(0);
            is("count(2)", x.count(2), 0);
        });
        test(21, "All but THE PAD and IMAGES is as it was when it was kept", "images are not", x -> {
            x.image(0);
            split(x, 0, 1, "b", 10);
            x.image(1);
            x.restore(0);
            is("count(6)", x.count(6), 3);
            x.restore(1);
            is("count(0)", x.count(0), 1);
        });
        test(21, "the IMAGE stays", x -> {
            split(x, 0, 1, "b", 10);
            x.image(0);
            x.restore(0);
            is("count(6)", x.count(6), 1);
            x.undo();
            is("restore(0) once more", x.restore(0), 1);
            is("count(0)", x.count(0), 1);
        });
        test(21, "the IMAGE stays", "what is told behind restore is not in it", x -> {
            split(x, 0, 1, "b", 10);
            x.image(0);
            x.restore(0);
            x.undo();
            split(x, 0, 6, "c", 20);
            x.restore(0);
            is("event(0, 1)", x.event(0, 1), 10);
            is("event(0, 3)", x.event(0, 3), 1);
            isNamed(x, 1, 10, "b");
        });
        test(21, ": 1", x -> {
            x.image(0);
            x.image(1);
            is("restore(0)", x.restore(0), 1);
            is("restore(1)", x.restore(1), 1);
        });
    }

    private static void restoreRefused() {
        test(21, "OUTSIDE", x -> {
            x.image(0);
            x.image(1);
            each("restore(_)", OUTSIDE, x::restore, -1, 2, 3, 31, 32, 33, LEAST, MOST);
        });
        test(21, "STATE: nothing was kept in it", "in neither", x -> each("restore(_)", STATE, x::restore, 0, 1));
        test(21, "STATE: nothing was kept in it", "in the second", x -> {
            x.image(0);
            is("restore(1)", x.restore(1), STATE);
            is("restore(0)", x.restore(0), 1);
        });
        test(21, "STATE: nothing was kept in it", "in the first", x -> {
            x.image(1);
            is("restore(0)", x.restore(0), STATE);
            is("restore(1)", x.restore(1), 1);
        });
        test(21, "STATE: nothing was kept in it", "nothing told was kept, too", x -> {
            x.image(0);
            is("restore(0)", x.restore(0), 1);
        });
    }

    private static void count() {
        test(22, "How many EVENTS there are (0)", x -> {
            is("count(0) at first", x.count(0), 0);
            split(x, 0, 3, "b", 10);
            is("count(0)", x.count(0), 1);
            fill(x, 0, 10, 30);
            is("count(0), all", x.count(0), 30);
            x.undo();
            is("count(0) behind undo", x.count(0), 29);
        });
        test(22, "PARISHES that there ever were (1", x -> {
            is("count(1) at first", x.count(1), 1);
            parishOfNoYear(x, 10);
            is("count(1), one that is not there", x.count(1), 2);
            named(x, 0, "c", 10);
            is("count(1) behind NAMED", x.count(1), 2);
        });
        test(22, "PARISHES that there ever were (1", "all", x -> {
            sixteenParishes(x);
            is("count(1)", x.count(1), 16);
        });
        test(22, "those that came by EVENTS that were undone are not)", x -> {
            split(x, 0, 3, "b", 10);
            split(x, 0, 4, "c", 10);
            x.undo();
            is("count(1)", x.count(1), 2);
            x.undo();
            is("count(1), all undone", x.count(1), 1);
        });
        test(22, "letters on THE PAD (2)", x -> {
            is("count(2) at first", x.count(2), 0);
            x.say(98);
            is("count(2)", x.count(2), 1);
            say(x, "bbbbbbb");
            is("count(2), all", x.count(2), 8);
            x.name(0, 0);
            is("count(2) behind NAMED", x.count(2), 0);
        });
        test(22, "the YEAR of the last EVENT (3", x -> {
            named(x, 0, "b", 10);
            named(x, 0, "b", 999);
            is("count(3)", x.count(3), 999);
            x.undo();
            is("count(3) behind undo", x.count(3), 10);
        });
        test(22, "; 0: there is none)", "at first", x -> is("count(3)", x.count(3), 0));
        test(22, "; 0: there is none)", "all are undone", x -> {
            named(x, 0, "b", 10);
            x.undo();
            is("count(3)", x.count(3), 0);
        });
        test(22, "; 0: there is none)", "one of year 0", x -> {
            named(x, 0, "b", 0);
            is("count(3)", x.count(3), 0);
        });
        test(22, "which IMAGES are kept, a set: bits 0, 1 (6)", x -> {
            is("count(6) at first", x.count(6), 0);
            x.image(1);
            is("count(6), the second", x.count(6), 2);
            x.image(0);
            is("count(6), both", x.count(6), 3);
        });
        test(22, "which IMAGES are kept, a set: bits 0, 1 (6)", "the first alone", x -> {
            x.image(0);
            is("count(6)", x.count(6), 1);
        });
        test(22, "OUTSIDE", x -> each("count(_)", OUTSIDE, x::count, -1, 7, 8, 9, 14, 15, LEAST, MOST, LEAST + 10, MOST - 9));
    }

    private static void countOfThere() {
        test(22, "PARISHES that ARE THERE behind all EVENTS (4)", x -> {
            is("count(4) at first", x.count(4), 1);
            split(x, 0, 3, "b", 10);
            is("count(4), two", x.count(4), 2);
            x.merge(0, 1, 20);
            is("count(4), the first one merged", x.count(4), 1);
            x.undo();
            is("count(4) behind undo", x.count(4), 2);
        });
        test(22, "PARISHES that ARE THERE behind all EVENTS (4)", "as many as there can be", x -> {
            for (int i = 1; i < 12; i++) split(x, 0, 1 << i, "b", 999);
            is("count(4)", x.count(4), 12);
        });
        test(22, "PARISHES that ARE THERE behind all EVENTS (4)", "though 16 ever were", x -> {
            sixteenParishes(x);
            is("count(4)", x.count(4), 11);
        });
        test(22, "unlike NAMES that these have then (5)", x -> {
            is("count(5) at first", x.count(5), 1);
            split(x, 0, 1, "b", 10);
            is("count(5), a and b", x.count(5), 2);
            split(x, 0, 2, "b", 10);
            is("count(5), b twice", x.count(5), 2);
            named(x, 0, "b", 10);
            is("count(5), b alone", x.count(5), 1);
        });
        test(22, "unlike NAMES that these have then (5)", "names that are nearly the same are unlike", x -> {
            split(x, 0, 1, "aa", 10);
            split(x, 0, 2, "e", 10);
            is("count(5)", x.count(5), 3);
        });
        test(22, "unlike NAMES that these have then (5)", "unlike in the eighth letter", x -> {
            split(x, 0, 1, "bcdefghi", 10);
            split(x, 0, 2, "bcdefghj", 10);
            is("count(5)", x.count(5), 3);
        });
        test(22, "unlike NAMES that these have then (5)", "those of parishes that are not there do not count", x -> {
            split(x, 0, 1, "b", 10);
            split(x, 0, 2, "b", 10);
            x.merge(1, 0, 20);
            is("count(5), the other has it still", x.count(5), 2);
            x.merge(2, 0, 20);
            is("count(5), none has", x.count(5), 1);
            split(x, 0, 1, "b", 30);
            x.merge(0, 3, 30);
            is("count(5), the first one merged", x.count(5), 1);
        });
        test(22, "unlike NAMES that these have then (5)", "names of before do not count", x -> {
            named(x, 0, "b", 10);
            named(x, 0, "c", 20);
            is("count(5)", x.count(5), 1);
        });
        test(22, "unlike NAMES that these have then (5)", "as many as there can be", x -> {
            for (int i = 1; i < 12; i++) split(x, 0, 1 << i, String.valueOf((char) ('a' + i)), 999);
            is("count(5)", x.count(5), 12);
        });
    }

    private static void countOfKinds() {
        test(22, "EVENTS of KIND k (10 and k, k 0 to 3)", "none", x -> each("count(_)", 0, x::count, 10, 11, 12, 13));
        test(22, "EVENTS of KIND k (10 and k, k 0 to 3)", "some", x -> {
            split(x, 0, 1, "b", 10);
            split(x, 0, 2, "c", 10);
            split(x, 0, 12, "d", 10);
            split(x, 0, 48, "e", 10);
            x.shift(3, 4, 0, 10);
            x.shift(4, 16, 0, 10);
            x.shift(0, 4, 3, 10);
            x.merge(1, 0, 10);
            x.merge(2, 0, 10);
            named(x, 0, "f", 10);
            is("count(10)", x.count(10), 1);
            is("count(11)", x.count(11), 4);
            is("count(12)", x.count(12), 2);
            is("count(13)", x.count(13), 3);
        });
        test(22, "EVENTS of KIND k (10 and k, k 0 to 3)", "undone ones are none", x -> {
            split(x, 0, 1, "b", 10);
            x.undo();
            is("count(11)", x.count(11), 0);
        });
        test(22, "EVENTS of KIND k (10 and k, k 0 to 3)", "30", x -> {
            fill(x, 0, 5, 30);
            is("count(10)", x.count(10), 30);
        });
    }
}
