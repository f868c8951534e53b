/** What stands under "Terms", and how long an object is used; refusals, their order and what they leave are in RefusalsTest. */
public final class TermsTest extends Sentences {
    public static void main(String[] args) {
        all();
        end("TermsTest");
    }

    static void all() {
        use();
        constants();
        asking();
        sets();
        numbers();
        names();
        events();
        holding();
        kinds();
        classes();
        sounds();
        offs();
        hows();
        spans();
    }

    private static void use() {
        test(WHAT_IT_IS, "An object is used for at most 512 calls after it has been made", x -> {
            int calls = 0;
            for (int i = 0; i < 30; i++, calls += 2) {
                x.say('b' + i % 25);
                is("name(0, " + i + ")", x.name(0, i), i);
            }
            is("image(0)", x.image(0), 1);
            calls++;
            for (; calls < 510; calls += 3) {
                is("undo()", x.undo(), 29);
                is("undo()", x.undo(), 28);
                is("restore(0)", x.restore(0), 1);
            }
            for (; calls < 511; calls++) is("count(0)", x.count(0), 30);
            is("the 512th call, letter(0, 999, 0)", x.letter(0, 999, 0), 'b' + 29 % 25);
        });
    }

    private static void constants() {
        test(TERMS, "What refused calls answer", x -> {
            is("UNKNOWN", ParishNames.UNKNOWN, -1);
            is("OUTSIDE", ParishNames.OUTSIDE, -2);
            is("STATE", ParishNames.STATE, -3);
            is("FULL", ParishNames.FULL, -4);
            is("NO", ParishNames.NO, -5);
            is("FAULT", ParishNames.FAULT, -7);
        });
        test(TERMS, "NONE: there is none", x -> {
            is("NONE", ParishNames.NONE, -6);
            is("undo()", x.undo(), -6);
        });
    }

    private static void asking() {
        test(TERMS, "All that is told is as things are when it is asked", "an event more", x -> {
            is("at(0, 10) at first", x.at(0, 10), 0);
            is("sites(0, 10) at first", x.sites(0, 10), 4095);
            is("letter(0, 20, -1) at first", x.letter(0, 20, -1), 1);
            is("sound(0, 20, 0) at first", x.sound(0, 20, 0), 0);
            is("parish(0, 3) at first", x.parish(0, 3), 0);
            is("span(0, -1, 0) at first", x.span(0, -1, 0), 1);
            is("heirs(0, 0, 10) at first", x.heirs(0, 0, 10), 1);
            split(x, 0, 1, "b", 10);
            named(x, 0, "cd", 20);
            is("at(0, 10)", x.at(0, 10), 1);
            is("sites(0, 10)", x.sites(0, 10), 4094);
            is("letter(0, 20, -1)", x.letter(0, 20, -1), 2);
            is("sound(0, 20, 0)", x.sound(0, 20, 0), 2);
            is("parish(0, 3)", x.parish(0, 3), 2);
            is("span(0, -1, 0)", x.span(0, -1, 0), 2);
            is("heirs(0, 0, 10)", x.heirs(0, 0, 10), 3);
        });
        test(TERMS, "All that is told is as things are when it is asked", "an event undone", x -> {
            split(x, 0, 1, "b", 10);
            write(x, "b");
            is("find", x.find(0, 999, 0, -1), 1);
            is("called", x.called(0, 0, 999, 0, 0), 990);
            x.undo();
            is("find behind undo", x.find(0, 999, 0, -1), 0);
            is("called behind undo", x.called(0, 0, 999, 0, 0), 0);
            is("at behind undo", x.at(0, 10), 0);
        });
        test(TERMS, "All that is told is as things are when it is asked", "another pad", x -> {
            write(x, "a");
            is("find of a", x.find(0, 0, 0, -1), 1);
            is("called a", x.called(0, 0, 0, 0, 0), 1);
            is("off of a", x.off(0, 0), 0);
            x.say('b');
            is("find of ab", x.find(0, 0, 0, -1), 0);
            is("called ab", x.called(0, 0, 0, 0, 0), 0);
            is("off of ab", x.off(0, 0), 1);
        });
        test(TERMS, "All that is told is as things are when it is asked", "an image restored", x -> {
            x.image(0);
            split(x, 0, 1, "b", 10);
            is("at", x.at(0, 10), 1);
            x.restore(0);
            is("at behind restore", x.at(0, 10), 0);
        });
    }

    private static void sets() {
        test(TERMS, "Sets of SITES, of PARISHES are numbers: bit k (of the value 1 shifted left by k) tells whether k is in it", "sites", x -> {
            for (int k = 0; k < 12; k++) {
                split(x, 0, 1 << k, "b", 1);
                for (int site = 0; site < 12; site++) is("at(" + site + ", 1) with bit " + k, x.at(site, 1), site == k ? 1 : 0);
                is("sites(1, 1) with bit " + k, x.sites(1, 1), 1 << k);
                is("event(0, 3) with bit " + k, x.event(0, 3), 1 << k);
                x.undo();
            }
        });
        test(TERMS, "Sets of SITES, of PARISHES are numbers: bit k (of the value 1 shifted left by k) tells whether k is in it", "parishes", x -> {
            sixteenParishes(x);
            is("heirs(0, 0, 3)", x.heirs(0, 0, 3), 1 | 0b111111111 << 3 | 1 << 15);
            for (int parish = 0; parish < 16; parish++) {
                int set = x.sites(parish, 3);
                is("heirs of " + parish + " in its own year", x.heirs(parish, 3, 3), set == 0 ? 0 : 1 << parish);
            }
        });
    }

    private static void numbers() {
        test(TERMS, "YEARS are 0 to 999", "the first", x -> {
            is("split in 0", split(x, 0, 1, "b", 0), 1);
            is("at(0, 0)", x.at(0, 0), 1);
            is("at(0, -1)", x.at(0, -1), OUTSIDE);
        });
        test(TERMS, "YEARS are 0 to 999", "the last", x -> {
            is("split in 999", split(x, 0, 1, "b", 999), 1);
            is("at(0, 999)", x.at(0, 999), 1);
            is("at(0, 998)", x.at(0, 998), 0);
            is("at(0, 1000)", x.at(0, 1000), OUTSIDE);
        });
        test(TERMS, "YEARS are 0 to 999", "how many", x -> is("parish(0, 2)", x.parish(0, 2), 1000));
        test(TERMS, "SITES are 0 to 11", x -> {
            split(x, 0, 1 | 1 << 11, "b", 0);
            is("at(0, 0)", x.at(0, 0), 1);
            is("at(11, 0)", x.at(11, 0), 1);
            is("at(-1, 0)", x.at(-1, 0), UNKNOWN);
            is("at(12, 0)", x.at(12, 0), UNKNOWN);
        });
        test(TERMS, "At first there is PARISH 0", x -> {
            is("count(1)", x.count(1), 1);
            is("count(4)", x.count(4), 1);
            is("sites(1, 0)", x.sites(1, 0), UNKNOWN);
        });
        test(TERMS, "in YEAR 0 it has all SITES", x -> {
            is("sites(0, 0)", x.sites(0, 0), 4095);
            for (int site = 0; site < 12; site++) is("at(" + site + ", 0)", x.at(site, 0), 0);
        });
        test(TERMS, "and its NAME is the one letter a", x -> {
            isNamed(x, 0, 0, "a");
            isNamed(x, 0, 999, "a");
        });
    }

    private static void names() {
        test(TERMS, "A NAME has 1 to 8 letters", "one", x -> {
            is("name of z", named(x, 0, "z", 0), 0);
            isNamed(x, 0, 0, "z");
        });
        test(TERMS, "A NAME has 1 to 8 letters", "eight", x -> {
            is("name of zyxwvuts", named(x, 0, "zyxwvuts", 0), 0);
            isNamed(x, 0, 0, "zyxwvuts");
        });
        test(TERMS, "A NAME has 1 to 8 letters", "eight, of a new parish", x -> {
            is("split as zyxwvuts", split(x, 0, 1, "zyxwvuts", 0), 1);
            isNamed(x, 1, 0, "zyxwvuts");
        });
        test(TERMS, "a to z (codes 97 to 122)", x -> {
            for (int letter = 97; letter <= 122; letter++) {
                is("say(" + letter + ")", x.say(letter), 1);
                x.name(0, 0);
                is("letter(0, 0, 0)", x.letter(0, 0, 0), letter);
                x.undo();
            }
        });
        test(TERMS, "THE PAD has up to 8 letters", x -> {
            for (int k = 1; k <= 8; k++) is("say(98)", x.say(98), k);
            is("the ninth", x.say(98), FULL);
            is("count(2)", x.count(2), 8);
        });
        test(TERMS, "it is a NAME, if it has any", "none", x -> {
            is("name(0, 0)", x.name(0, 0), FAULT);
            is("split(0, 1, 0)", x.split(0, 1, 0), FAULT);
            is("off(0, 0)", x.off(0, 0), FAULT);
        });
        test(TERMS, "it is a NAME, if it has any", "one", x -> {
            x.say(98);
            is("off(0, 0)", x.off(0, 0), 1);
            is("name(0, 0)", x.name(0, 0), 0);
        });
    }

    private static void events() {
        test(TERMS, "EVENTS, each of a YEAR, are told one after the other", x -> {
            named(x, 0, "b", 3);
            named(x, 0, "c", 3);
            named(x, 0, "d", 9);
            is("event(0, 1)", x.event(0, 1), 3);
            is("event(1, 1)", x.event(1, 1), 3);
            is("event(2, 1)", x.event(2, 1), 9);
        });
        test(TERMS, "none of a lesser YEAR than the one told before it", "one less", x -> {
            named(x, 0, "b", 3);
            is("name in 2", named(x, 0, "c", 2), STATE);
        });
        test(TERMS, "none of a lesser YEAR than the one told before it", "the same", x -> {
            named(x, 0, "b", 3);
            is("name in 3", named(x, 0, "c", 3), 1);
        });
        test(TERMS, "there are up to 30, numbered from 0 on", x -> {
            for (int i = 0; i < 30; i++) is("the number", named(x, 0, "b", i), i);
            is("the 31st", named(x, 0, "b", 30), FULL);
            is("event(0, 1)", x.event(0, 1), 0);
            is("event(29, 1)", x.event(29, 1), 29);
        });
        test(TERMS, "PARISHES are numbered from 0 on as they come", x -> {
            is("the first that comes", split(x, 0, 3, "b", 1), 1);
            is("of that one", split(x, 1, 1, "c", 1), 2);
            x.merge(1, 0, 2);
            is("no number is used again", split(x, 0, 2, "d", 2), 3);
        });
        test(TERMS, "there are up to 16", x -> {
            sixteenParishes(x);
            is("count(1)", x.count(1), 16);
            is("sites(15, 3)", x.sites(15, 3), 2);
            is("sites(16, 3)", x.sites(16, 3), UNKNOWN);
            is("the 17th", split(x, 0, 1, "d", 3), FULL);
        });
    }

    private static void holding() {
        test(TERMS, "What an EVENT tells holds from its YEAR on (in that YEAR, too)", x -> {
            split(x, 0, 1, "b", 10);
            is("at(0, 9)", x.at(0, 9), 0);
            is("at(0, 10)", x.at(0, 10), 1);
            is("at(0, 11)", x.at(0, 11), 1);
            is("at(0, 999)", x.at(0, 999), 1);
            isNamed(x, 1, 10, "b");
        });
        test(TERMS, "till an EVENT behind it tells otherwise", "of a greater year", x -> {
            named(x, 0, "b", 10);
            named(x, 0, "c", 20);
            isNamed(x, 0, 19, "b");
            isNamed(x, 0, 20, "c");
        });
        test(TERMS, "till an EVENT behind it tells otherwise", "of the same year", x -> {
            named(x, 0, "b", 10);
            named(x, 0, "c", 10);
            isNamed(x, 0, 9, "a");
            isNamed(x, 0, 10, "c");
        });
        test(TERMS, "till an EVENT behind it tells otherwise", "of another parish", x -> {
            split(x, 0, 1, "b", 10);
            named(x, 0, "c", 20);
            isNamed(x, 1, 999, "b");
        });
        test(TERMS, "A PARISH IS THERE in a YEAR, if it has any SITE then", "one site", x -> {
            split(x, 0, 1 << 11, "b", 10);
            is("letter(1, 10, 0)", x.letter(1, 10, 0), 'b');
            is("count(4)", x.count(4), 2);
            is("merge of it", x.merge(1, 0, 10), 1);
        });
        test(TERMS, "A PARISH IS THERE in a YEAR, if it has any SITE then", "no site", x -> {
            split(x, 0, 1 << 11, "b", 10);
            x.merge(1, 0, 20);
            is("letter(1, 9, 0)", x.letter(1, 9, 0), NONE);
            is("letter(1, 20, 0)", x.letter(1, 20, 0), NONE);
            is("count(4)", x.count(4), 1);
            is("merge of it", x.merge(1, 0, 20), NO);
        });
        test(TERMS, "(What holds in a YEAR: behind all EVENTS of that YEAR and of lesser ones.)", x -> {
            split(x, 0, 3, "b", 10);
            x.shift(1, 1, 0, 10);
            x.shift(0, 4, 1, 10);
            named(x, 1, "c", 10);
            x.shift(0, 8, 1, 11);
            is("sites(1, 9)", x.sites(1, 9), 0);
            is("sites(1, 10)", x.sites(1, 10), 6);
            isNamed(x, 1, 10, "c");
            is("sites(1, 11)", x.sites(1, 11), 14);
        });
    }

    private static void kinds() {
        test(TERMS, "KINDS of EVENTS: 0 NAMED: a PARISH has another NAME", x -> {
            named(x, 0, "b", 10);
            is("event(0, 0)", x.event(0, 0), 0);
            isNamed(x, 0, 10, "b");
        });
        test(TERMS, "(or the same)", x -> {
            is("name of a", named(x, 0, "a", 10), 0);
            isNamed(x, 0, 10, "a");
        });
        test(TERMS, "1 SPLIT: some SITES of a PARISH, not all, are those of a new PARISH, that has a NAME", x -> {
            split(x, 0, 2047, "b", 10);
            is("event(0, 0)", x.event(0, 0), 1);
            is("sites(1, 10)", x.sites(1, 10), 2047);
            is("sites(0, 10)", x.sites(0, 10), 2048);
            isNamed(x, 1, 10, "b");
            isNamed(x, 0, 10, "a");
            is("all of them", split(x, 1, 2047, "c", 10), NO);
        });
        test(TERMS, "2 MERGED: all SITES of a PARISH are those of another one, which keeps its NAME", x -> {
            split(x, 0, 3, "b", 10);
            x.merge(0, 1, 20);
            is("event(1, 0)", x.event(1, 0), 2);
            is("sites(0, 20)", x.sites(0, 20), 0);
            is("sites(1, 20)", x.sites(1, 20), 4095);
            isNamed(x, 1, 20, "b");
        });
        test(TERMS, "3 SHIFTED: some SITES of a PARISH, not all, are those of another one", x -> {
            split(x, 0, 3, "b", 10);
            x.shift(1, 2, 0, 20);
            is("event(1, 0)", x.event(1, 0), 3);
            is("sites(1, 20)", x.sites(1, 20), 1);
            is("sites(0, 20)", x.sites(0, 20), 4094);
            is("all of them", x.shift(1, 1, 0, 20), NO);
        });
    }

    private static void classes() {
        isOfClass("The SOUND of a NAME: each letter has a CLASS: a, e, h, i, o, u, w, y 0", "aehiouwy", 0);
        isOfClass("b, f, p, v 1", "bfpv", 1);
        isOfClass("c, g, j, k, q, s, x, z 2", "cgjkqsxz", 2);
        isOfClass("d, t 3", "dt", 3);
        isOfClass("l 4", "l", 4);
        isOfClass("m, n 5", "mn", 5);
        isOfClass("r 6", "r", 6);
    }

    /** Each letter as the first one, and behind one of another class. */
    private static void isOfClass(String words, String letters, int its) {
        test(TERMS, words, x -> {
            for (char letter : letters.toCharArray()) {
                isHeard(String.valueOf(letter), String.valueOf(its));
                isHeard("a" + letter, its == 0 ? "0" : "0" + its);
                isHeard((its == 6 ? "l" : "r") + letter, (its == 6 ? "4" : "6") + (its == 0 ? "" : its));
            }
        });
    }

    private static void sounds() {
        test(TERMS, "The first letter's CLASS is the first one of the SOUND, also 0", x -> {
            isHeard("b", "1");
            isHeard("a", "0");
            isHeard("ar", "06");
        });
        test(TERMS, "Of each further letter the CLASS is one more, if it is not 0", x -> {
            isHeard("aeiou", "0");
            isHeard("ba", "1");
            isHeard("bcd", "123");
            isHeard("bacad", "123");
            isHeard("aaab", "01");
        });
        test(TERMS, "and not the CLASS of the letter right before it in the NAME", "the same class", x -> {
            isHeard("bb", "1");
            isHeard("pf", "1");
            isHeard("mnmn", "5");
            isHeard("sch", "2");
            isHeard("pfaq", "12");
        });
        test(TERMS, "and not the CLASS of the letter right before it in the NAME", "a letter between", x -> {
            isHeard("bab", "11");
            isHeard("bbab", "11");
            isHeard("shs", "22");
            isHeard("tata", "33");
            isHeard("ashcroft", "0226");
            isHeard("lrl", "464");
        });
        test(TERMS, "Those beyond the fourth are left out", x -> {
            isHeard("bcdl", "1234");
            isHeard("bcdlm", "1234");
            isHeard("bcdlmrbc", "1234");
            isHeard("rlrlrlrl", "6464");
            isHeard("abababab", "0111");
            isHeard("abababa", "0111");
        });
    }

    private static void offs() {
        test(TERMS, "OFF of two NAMES: the least number of letters", "the same", x -> {
            isOff("a", "a", 0);
            isOff("abcdefgh", "abcdefgh", 0);
        });
        test(TERMS, "OFF of two NAMES: the least number of letters", "the least", x -> {
            isOff("abcdefgh", "bcdefgha", 2);
            isOff("kitten", "sitting", 3);
            isOff("sunday", "saturday", 3);
            isOff("bury", "berry", 2);
        });
        test(TERMS, "OFF of two NAMES: the least number of letters", "the most that there is", x -> {
            isOff("abcdefgh", "ijklmnop", 8);
            isOff("abcdefgh", "z", 8);
            isOff("abcdefgh", "h", 7);
        });
        test(TERMS, "that have to be changed", x -> {
            isOff("a", "b", 1);
            isOff("york", "cork", 1);
            isOff("york", "yorx", 1);
            isOff("york", "yxrx", 2);
        });
        test(TERMS, "put in or left out", x -> {
            isOff("york", "ork", 1);
            isOff("york", "yok", 1);
            isOff("york", "yor", 1);
            isOff("abcdefgh", "abcdefg", 1);
            isOff("aaaa", "aa", 2);
        });
        test(TERMS, "one at a time, so that the one becomes the other", x -> {
            isOff("ab", "ba", 2);
            isOff("york", "oyrk", 2);
        });
    }

    private static void hows() {
        test(TERMS, "HOW a NAME is like another one: 0 they are the same", x -> {
            named(x, 0, "york", 0);
            isLike(x, 0, "york", 1);
            isLike(x, 0, "yor", 0);
            isLike(x, 0, "yorkk", 0);
            isLike(x, 0, "yorc", 0);
        });
        test(TERMS, "HOW a NAME is like another one: 0 they are the same", "in the eighth letter, too", x -> {
            named(x, 0, "abcdefgh", 0);
            isLike(x, 0, "abcdefgh", 1);
            isLike(x, 0, "abcdefgi", 0);
            isLike(x, 0, "abcdefg", 0);
        });
        test(TERMS, "1 their SOUNDS are", x -> {
            named(x, 0, "bury", 0);
            isLike(x, 1, "bury", 1);
            isLike(x, 1, "ferreira", 0);
            isLike(x, 1, "ferry", 1);
            isLike(x, 1, "pr", 1);
            isLike(x, 1, "p", 0);
            isLike(x, 1, "prl", 0);
            isLike(x, 1, "abury", 0);
        });
        test(TERMS, "1 their SOUNDS are", "up to the fourth class alone", x -> {
            named(x, 0, "bcdlm", 0);
            isLike(x, 1, "pgtl", 1);
            isLike(x, 1, "pgtlr", 1);
            isLike(x, 1, "pgtm", 0);
            isLike(x, 1, "pgt", 0);
        });
        test(TERMS, "2 OFF is 1 at the most", x -> {
            named(x, 0, "york", 0);
            isLike(x, 2, "york", 1);
            isLike(x, 2, "yorks", 1);
            isLike(x, 2, "ork", 1);
            isLike(x, 2, "cork", 1);
            isLike(x, 2, "corks", 0);
            isLike(x, 2, "yrok", 0);
            isLike(x, 2, "yo", 0);
        });
    }

    private static void isLike(ParishNames x, int how, String pad, int want) {
        write(x, pad);
        is("find of " + pad + ", how " + how, x.find(0, 0, how, -1), want);
        is("called " + pad + ", how " + how, x.called(0, 0, 0, how, 0), want);
    }

    private static void spans() {
        test(TERMS, "A SPAN of a SITE: YEARS, one after the other, as many as can be", "the same told again", x -> {
            named(x, 0, "a", 10);
            split(x, 0, 1, "b", 20);
            named(x, 1, "b", 30);
            x.shift(0, 2, 1, 40);
            spansAre(x, 0, span(0, 19, 0), span(20, 999, 1));
            spansAre(x, 11, span(0, 999, 0));
        });
        test(TERMS, "A SPAN of a SITE: YEARS, one after the other, as many as can be", "told otherwise and back in one year", x -> {
            named(x, 0, "b", 10);
            named(x, 0, "a", 10);
            parishOfNoYear(x, 20);
            spansAre(x, 0, span(0, 999, 0));
        });
        test(TERMS, "A SPAN of a SITE: YEARS, one after the other, as many as can be", "a year between", x -> {
            named(x, 0, "b", 10);
            named(x, 0, "a", 11);
            spansAre(x, 0, span(0, 9, 0), span(10, 10, 0), span(11, 999, 0));
        });
        test(TERMS, "in which it is of the same PARISH with the same NAME", "another parish, the same name", x -> {
            split(x, 0, 1, "a", 10);
            spansAre(x, 0, span(0, 9, 0), span(10, 999, 1));
            x.merge(1, 0, 20);
            spansAre(x, 0, span(0, 9, 0), span(10, 19, 1), span(20, 999, 0));
        });
        test(TERMS, "in which it is of the same PARISH with the same NAME", "the same parish, another name", x -> {
            named(x, 0, "b", 10);
            spansAre(x, 0, span(0, 9, 0), span(10, 999, 0));
        });
        test(TERMS, "SPANS of a SITE are numbered from 0 on by their YEARS", x -> {
            split(x, 0, 1, "b", 10);
            x.merge(1, 0, 20);
            is("span(0, 0, 0)", x.span(0, 0, 0), 0);
            is("span(0, 1, 0)", x.span(0, 1, 0), 10);
            is("span(0, 2, 0)", x.span(0, 2, 0), 20);
        });
        test(TERMS, "all SPANS together are YEARS 0 to 999", "one", x -> spansAre(x, 0, span(0, 999, 0)));
        test(TERMS, "all SPANS together are YEARS 0 to 999", "an event of year 0", x -> {
            named(x, 0, "b", 0);
            spansAre(x, 0, span(0, 999, 0));
        });
        test(TERMS, "all SPANS together are YEARS 0 to 999", "an event of year 999", x -> {
            named(x, 0, "b", 999);
            spansAre(x, 0, span(0, 998, 0), span(999, 999, 0));
        });
        test(TERMS, "all SPANS together are YEARS 0 to 999", "as many as there can be", x -> {
            int[][] want = new int[31][];
            for (int i = 0; i < 30; i++) named(x, 0, i % 2 == 0 ? "b" : "a", 2 * i + 1);
            for (int i = 0; i <= 30; i++) want[i] = span(i == 0 ? 0 : 2 * i - 1, i == 30 ? 999 : 2 * i, 0);
            spansAre(x, 11, want);
        });
    }
}
