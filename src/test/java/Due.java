/** Compares answers with those that are due, and ends the test with exit code 1 if one was not. */
final class Due {
    private int asked = 0;
    private int wrong = 0;

    void is(String call, long got, long want) {
        asked++;
        if (got == want) return;
        wrong++;
        System.out.println(call + " answered " + got + ", due is " + want);
    }

    void end(String test) {
        System.out.println(test + ": " + asked + " answers, " + wrong + " not as due");
        if (wrong != 0) System.exit(1);
    }

    static void say(ParishNames x, String letters) {
        for (int k = 0; k < letters.length(); k++) x.say(letters.charAt(k));
    }

    static int named(ParishNames x, int parish, String name, int year) {
        say(x, name);
        return x.name(parish, year);
    }

    static int split(ParishNames x, int parish, int set, String name, int year) {
        say(x, name);
        return x.split(parish, set, year);
    }

    /** The name of a parish in a year as text, read letter by letter; "" if it is not there. */
    static String nameOf(ParishNames x, int parish, int year) {
        StringBuilder text = new StringBuilder();
        int length = x.letter(parish, year, -1);
        for (int k = 0; k < length; k++) text.append((char) x.letter(parish, year, k));
        return text.toString();
    }
}
