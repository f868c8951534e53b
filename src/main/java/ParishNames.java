/** Names of places over time: which parish a site was of in any year, and what that was called. */
public final class ParishNames {
    public static final int UNKNOWN = -1, OUTSIDE = -2, STATE = -3, FULL = -4, NO = -5, NONE = -6, FAULT = -7;

    private static final int NAMED = 0, SPLIT = 1, MERGED = 2, SHIFTED = 3;
    private static final int SAME = 0, SOUNDS_SAME = 1, NEARLY = 2;
    private static final int LAST_YEAR = 999;
    private static final int SITE_COUNT = 12, ALL_SITES = 4095;
    private static final int MOST_EVENTS = 30, MOST_PARISHES = 16, MOST_LETTERS = 8, MOST_CLASSES = 4;
    private static final int IMAGE_COUNT = 2;
    private static final int FIRST_LETTER = 97, LAST_LETTER = 122;
    private static final int KINDS_FROM = 10;

    private final Chronicle now = new Chronicle();
    private final Chronicle[] kept = {new Chronicle(), new Chronicle()};
    private final Speller speller = new Speller();
    private int keptSet = 0;
    private long pad = 0L;

    public ParishNames() {
    }

    // ---- 1 events

    public int say(int letter) {
        if (letter < FIRST_LETTER || letter > LAST_LETTER) return OUTSIDE;
        int had = Speller.lengthOf(pad);
        if (had >= MOST_LETTERS) return FULL;
        pad = Speller.withLetter(pad, had, letter);
        return had + 1;
    }

    public int wipe() {
        int had = Speller.lengthOf(pad);
        pad = 0L;
        return had;
    }

    public int name(int parish, int year) {
        if (!now.knows(parish)) return UNKNOWN;
        if (!isYear(year)) return OUTSIDE;
        if (padIsNoName()) return FAULT;
        if (year < now.yearOfLast()) return STATE;
        if (now.sitesNow(parish) == 0) return NO;
        if (now.isFull()) return FULL;
        now.tell(NAMED, year, parish, 0, NONE, takePad());
        return now.lastEvent();
    }

    public int split(int parish, int set, int year) {
        if (!now.knows(parish)) return UNKNOWN;
        if (!isSetOfSites(set) || !isYear(year)) return OUTSIDE;
        if (padIsNoName()) return FAULT;
        if (year < now.yearOfLast()) return STATE;
        if (!isProperPart(set, now.sitesNow(parish))) return NO;
        if (now.isFull() || now.parishCount() >= MOST_PARISHES) return FULL;
        int founded = now.parishCount();
        now.tell(SPLIT, year, parish, set, founded, takePad());
        return founded;
    }

    public int merge(int parish, int into, int year) {
        if (!now.knows(parish) || !now.knows(into)) return UNKNOWN;
        if (parish == into || !isYear(year)) return OUTSIDE;
        if (year < now.yearOfLast()) return STATE;
        int set = now.sitesNow(parish);
        if (set == 0 || now.sitesNow(into) == 0) return NO;
        if (now.isFull()) return FULL;
        now.tell(MERGED, year, parish, set, into, 0L);
        return now.lastEvent();
    }

    public int shift(int parish, int set, int to, int year) {
        if (!now.knows(parish) || !now.knows(to)) return UNKNOWN;
        if (parish == to || !isSetOfSites(set) || !isYear(year)) return OUTSIDE;
        if (year < now.yearOfLast()) return STATE;
        if (now.sitesNow(to) == 0 || !isProperPart(set, now.sitesNow(parish))) return NO;
        if (now.isFull()) return FULL;
        now.tell(SHIFTED, year, parish, set, to, 0L);
        return now.lastEvent();
    }

    public int undo() {
        if (now.eventCount() == 0) return NONE;
        now.forgetLast();
        return now.eventCount();
    }

    public int event(int i, int what) {
        if (what < 0 || what > 4) return OUTSIDE;
        return now.factOf(i, what);
    }

    // ---- 2 what was when

    public int at(int site, int year) {
        if (!isSite(site)) return UNKNOWN;
        if (!isYear(year)) return OUTSIDE;
        return now.ownerBehind(site, now.stageIn(year));
    }

    public int sites(int parish, int year) {
        if (!now.knows(parish)) return UNKNOWN;
        if (!isYear(year)) return OUTSIDE;
        return now.sitesBehind(parish, now.stageIn(year));
    }

    public int letter(int parish, int year, int k) {
        if (!now.knows(parish)) return UNKNOWN;
        if (!isYear(year) || k < -1) return OUTSIDE;
        long name = now.nameIn(parish, year);
        if (name == 0L) return NONE;
        int length = Speller.lengthOf(name);
        if (k == -1) return length;
        return k < length ? Speller.letterOf(name, k) : NONE;
    }

    public int sound(int parish, int year, int k) {
        if (!now.knows(parish)) return UNKNOWN;
        if (!isYear(year) || k < -1) return OUTSIDE;
        long name = now.nameIn(parish, year);
        if (name == 0L) return NONE;
        int heard = Speller.soundOf(name);
        int length = Speller.lengthOfSound(heard);
        if (k == -1) return length;
        return k < length ? Speller.classOfSound(heard, k) : NONE;
    }

    public int parish(int parish, int what) {
        if (!now.knows(parish)) return UNKNOWN;
        if (what < 0 || what > 4) return OUTSIDE;
        return what == 3 ? now.eventsOf(parish) : now.lifeOf(parish, what);
    }

    // ---- 3 letters

    public int find(int from, int to, int how, int i) {
        if (!areYears(from, to) || !isHow(how) || i < -1) return OUTSIDE;
        if (padIsNoName()) return FAULT;
        int found = 0;
        for (int parish = 0; parish < now.parishCount(); parish++) {
            if (!wasCalled(parish, from, to, how)) continue;
            if (found == i) return parish;
            found++;
        }
        return i == -1 ? found : NONE;
    }

    public int called(int site, int from, int to, int how, int what) {
        if (!isSite(site)) return UNKNOWN;
        if (!areYears(from, to) || !isHow(how) || what < 0 || what > 2) return OUTSIDE;
        if (padIsNoName()) return FAULT;
        int years = 0, first = NONE, last = NONE;
        for (int stage = 0; stage <= now.eventCount(); stage++) {
            int begin = Math.max(from, now.firstYear(stage));
            int end = Math.min(to, now.lastYear(stage));
            if (begin > end || !speller.areAlike(now.nameAt(site, stage), pad, how)) continue;
            if (years == 0) first = begin;
            last = end;
            years += end - begin + 1;
        }
        if (what == 0) return years;
        return what == 1 ? first : last;
    }

    public int off(int parish, int year) {
        if (!now.knows(parish)) return UNKNOWN;
        if (!isYear(year)) return OUTSIDE;
        if (padIsNoName()) return FAULT;
        long name = now.nameIn(parish, year);
        return name == 0L ? NONE : speller.distance(pad, name);
    }

    // ---- 4 spans, heirs

    public int span(int site, int i, int what) {
        if (!isSite(site)) return UNKNOWN;
        if (i < -1 || what < 0 || what > 2) return OUTSIDE;
        int number = 0;
        int stage = now.stageIn(0);
        for (int step = 0; step <= MOST_EVENTS && stage <= now.eventCount(); step++) {
            int next = now.nextSpan(site, stage);
            if (number == i) return spanFact(site, stage, next, what);
            number++;
            stage = next;
        }
        return i == -1 ? number : NONE;
    }

    public int heirs(int parish, int year, int then) {
        if (!now.knows(parish)) return UNKNOWN;
        if (!isYear(year) || !isYear(then)) return OUTSIDE;
        int set = now.sitesBehind(parish, now.stageIn(year));
        int stage = now.stageIn(then);
        int heirSet = 0;
        for (int site = 0; site < SITE_COUNT; site++) {
            if (has(set, site)) heirSet |= 1 << now.ownerBehind(site, stage);
        }
        return heirSet;
    }

    // ---- 5 images

    public int image(int k) {
        if (k < 0 || k >= IMAGE_COUNT) return OUTSIDE;
        kept[k].becomeLike(now);
        keptSet |= 1 << k;
        return 1;
    }

    public int restore(int k) {
        if (k < 0 || k >= IMAGE_COUNT) return OUTSIDE;
        if (!has(keptSet, k)) return STATE;
        now.becomeLike(kept[k]);
        return 1;
    }

    public int count(int what) {
        switch (what) {
            case 0: return now.eventCount();
            case 1: return now.parishCount();
            case 2: return Speller.lengthOf(pad);
            case 3: return now.yearOfLast();
            case 4: return now.parishesNow();
            case 5: return now.unlikeNamesNow();
            case 6: return keptSet;
            case KINDS_FROM + NAMED:
            case KINDS_FROM + SPLIT:
            case KINDS_FROM + MERGED:
            case KINDS_FROM + SHIFTED: return now.eventsOfKind(what - KINDS_FROM);
            default: return OUTSIDE;
        }
    }

    private static boolean isYear(int year) {
        return year >= 0 && year <= LAST_YEAR;
    }

    private static boolean areYears(int from, int to) {
        return isYear(from) && isYear(to) && from <= to;
    }

    private static boolean isSite(int site) {
        return site >= 0 && site < SITE_COUNT;
    }

    private static boolean isSetOfSites(int set) {
        return set >= 0 && set <= ALL_SITES;
    }

    private static boolean isHow(int how) {
        return how >= SAME && how <= NEARLY;
    }

    private static boolean has(int set, int k) {
        return (set >>> k & 1) != 0;
    }

    /** Some of the whole, and not all of it. */
    private static boolean isProperPart(int set, int whole) {
        return set != 0 && (set & ~whole) == 0 && set != whole;
    }

    private boolean padIsNoName() {
        return pad == 0L;
    }

    private long takePad() {
        long taken = pad;
        pad = 0L;
        return taken;
    }

    private boolean wasCalled(int parish, int from, int to, int how) {
        int held = Chronicle.sitesAtFirst(parish);
        long name = Chronicle.nameAtFirst(parish);
        // A name found unlike need not be compared again in each stage that it lasts.
        long unlike = 0L;
        for (int stage = 0; stage <= now.eventCount(); stage++) {
            if (stage > 0) {
                held = now.sitesThrough(stage - 1, parish, held);
                name = now.nameThrough(stage - 1, parish, name);
            }
            boolean asked = Math.max(from, now.firstYear(stage)) <= Math.min(to, now.lastYear(stage));
            if (!asked || held == 0 || name == unlike) continue;
            if (speller.areAlike(name, pad, how)) return true;
            unlike = name;
        }
        return false;
    }

    private int spanFact(int site, int stage, int next, int what) {
        if (what == 0) return now.firstYear(stage);
        if (what == 2) return now.ownerBehind(site, stage);
        return next > now.eventCount() ? LAST_YEAR : now.firstYear(next) - 1;
    }

    /**
     * All events, one after the other. What holds is played anew from them, so that undoing is
     * forgetting the last one. Stage s is how things are behind the first s events; where the
     * next event is of the same year, a stage holds in no year: its first year is then greater
     * than its last one.
     */
    private static final class Chronicle {
        private final int[] kinds = new int[MOST_EVENTS];
        private final int[] years = new int[MOST_EVENTS];
        private final int[] parishes = new int[MOST_EVENTS];
        private final int[] sets = new int[MOST_EVENTS];
        private final int[] owners = new int[MOST_EVENTS];
        private final long[] names = new long[MOST_EVENTS];
        private int told = 0;
        private int founded = 1;

        int eventCount() {
            return told;
        }

        int lastEvent() {
            return told - 1;
        }

        int parishCount() {
            return founded;
        }

        boolean isFull() {
            return told >= MOST_EVENTS;
        }

        boolean knows(int parish) {
            return parish >= 0 && parish < founded;
        }

        int yearOfLast() {
            return told == 0 ? 0 : years[told - 1];
        }

        void tell(int kind, int year, int parish, int set, int owner, long name) {
            if (isFull()) return;
            kinds[told] = kind;
            years[told] = year;
            parishes[told] = parish;
            sets[told] = set;
            owners[told] = owner;
            names[told] = name;
            told++;
            if (kind == SPLIT) founded++;
        }

        void forgetLast() {
            if (told == 0) return;
            told--;
            if (kinds[told] == SPLIT) founded--;
        }

        void becomeLike(Chronicle other) {
            System.arraycopy(other.kinds, 0, kinds, 0, MOST_EVENTS);
            System.arraycopy(other.years, 0, years, 0, MOST_EVENTS);
            System.arraycopy(other.parishes, 0, parishes, 0, MOST_EVENTS);
            System.arraycopy(other.sets, 0, sets, 0, MOST_EVENTS);
            System.arraycopy(other.owners, 0, owners, 0, MOST_EVENTS);
            System.arraycopy(other.names, 0, names, 0, MOST_EVENTS);
            told = other.told;
            founded = other.founded;
        }

        int factOf(int i, int what) {
            if (i < 0 || i >= told) return NONE;
            switch (what) {
                case 0: return kinds[i];
                case 1: return years[i];
                case 2: return parishes[i];
                case 3: return kinds[i] == NAMED ? NONE : sets[i];
                default: return kinds[i] == NAMED ? NONE : owners[i];
            }
        }

        int firstYear(int stage) {
            return stage <= 0 || stage > told ? 0 : years[stage - 1];
        }

        int lastYear(int stage) {
            return stage < 0 || stage >= told ? LAST_YEAR : years[stage] - 1;
        }

        boolean holdsInAYear(int stage) {
            return firstYear(stage) <= lastYear(stage);
        }

        int stageIn(int year) {
            int stage = 0;
            while (stage < told && years[stage] <= year) stage++;
            return stage;
        }

        static int sitesAtFirst(int parish) {
            return parish == 0 ? ALL_SITES : 0;
        }

        static long nameAtFirst(int parish) {
            return parish == 0 ? Speller.withLetter(0L, 0, FIRST_LETTER) : 0L;
        }

        int sitesThrough(int i, int parish, int held) {
            if (i < 0 || i >= told) return held;
            if (parishes[i] == parish) return held & ~sets[i];
            return owners[i] == parish ? held | sets[i] : held;
        }

        long nameThrough(int i, int parish, long name) {
            if (i < 0 || i >= told) return name;
            if (kinds[i] == NAMED && parishes[i] == parish) return names[i];
            return kinds[i] == SPLIT && owners[i] == parish ? names[i] : name;
        }

        int sitesBehind(int parish, int stage) {
            int held = sitesAtFirst(parish);
            for (int i = 0; i < stage && i < told; i++) held = sitesThrough(i, parish, held);
            return held;
        }

        long nameBehind(int parish, int stage) {
            long name = nameAtFirst(parish);
            for (int i = 0; i < stage && i < told; i++) name = nameThrough(i, parish, name);
            return name;
        }

        int ownerBehind(int site, int stage) {
            int owner = 0;
            for (int i = 0; i < stage && i < told; i++) {
                if (has(sets[i], site)) owner = owners[i];
            }
            return owner;
        }

        int sitesNow(int parish) {
            return sitesBehind(parish, told);
        }

        /** 0 if the parish is not there in the year. */
        long nameIn(int parish, int year) {
            int stage = stageIn(year);
            return sitesBehind(parish, stage) == 0 ? 0L : nameBehind(parish, stage);
        }

        long nameAt(int site, int stage) {
            return nameBehind(ownerBehind(site, stage), stage);
        }

        int eventsOf(int parish) {
            int found = 0;
            for (int i = 0; i < told; i++) {
                if (parishes[i] == parish || owners[i] == parish) found++;
            }
            return found;
        }

        int eventsOfKind(int kind) {
            int found = 0;
            for (int i = 0; i < told; i++) {
                if (kinds[i] == kind) found++;
            }
            return found;
        }

        /** The first year (what = 0), the last one (1), how many (2), or how many sites in any year. */
        int lifeOf(int parish, int what) {
            int first = NONE, last = NONE, lived = 0, ever = 0;
            int held = sitesAtFirst(parish);
            for (int stage = 0; stage <= told; stage++) {
                if (stage > 0) held = sitesThrough(stage - 1, parish, held);
                if (held == 0 || !holdsInAYear(stage)) continue;
                if (lived == 0) first = firstYear(stage);
                last = lastYear(stage);
                lived += last - firstYear(stage) + 1;
                ever |= held;
            }
            switch (what) {
                case 0: return first;
                case 1: return last;
                case 2: return lived;
                default: return Integer.bitCount(ever);
            }
        }

        /** The stage with which the site's next span begins; one more than the last stage if none does. */
        int nextSpan(int site, int stage) {
            int owner = ownerBehind(site, stage);
            long name = nameBehind(owner, stage);
            for (int next = stage + 1; next <= told; next++) {
                if (!holdsInAYear(next)) continue;
                int nextOwner = ownerBehind(site, next);
                if (nextOwner != owner || nameBehind(nextOwner, next) != name) return next;
            }
            return told + 1;
        }

        int parishesNow() {
            int found = 0;
            for (int parish = 0; parish < founded; parish++) {
                if (sitesNow(parish) != 0) found++;
            }
            return found;
        }

        int unlikeNamesNow() {
            int found = 0;
            for (int parish = 0; parish < founded; parish++) {
                if (sitesNow(parish) != 0 && !isNameOfLesser(parish)) found++;
            }
            return found;
        }

        private boolean isNameOfLesser(int parish) {
            long name = nameBehind(parish, told);
            for (int lesser = 0; lesser < parish; lesser++) {
                if (sitesNow(lesser) != 0 && nameBehind(lesser, told) == name) return true;
            }
            return false;
        }
    }

    /**
     * Names as numbers: letter k is in the eight bits from bit 8 * k on, 0 behind the last one,
     * so that no name is 0 and two names are the same if their numbers are. Sounds likewise, four
     * bits a class, which is held one greater than it is.
     */
    private static final class Speller {
        private final int[] row = new int[MOST_LETTERS + 1];

        static int letterOf(long name, int k) {
            return (int) (name >>> 8 * k) & 255;
        }

        static long withLetter(long name, int k, int letter) {
            return name | (long) letter << 8 * k;
        }

        static int lengthOf(long name) {
            int length = 0;
            while (length < MOST_LETTERS && letterOf(name, length) != 0) length++;
            return length;
        }

        static int classOf(int letter) {
            switch (letter) {
                case 'b': case 'f': case 'p': case 'v':
                    return 1;
                case 'c': case 'g': case 'j': case 'k': case 'q': case 's': case 'x': case 'z':
                    return 2;
                case 'd': case 't':
                    return 3;
                case 'l':
                    return 4;
                case 'm': case 'n':
                    return 5;
                case 'r':
                    return 6;
                default:
                    return 0;
            }
        }

        static int soundOf(long name) {
            int before = classOf(letterOf(name, 0));
            int heard = before + 1;
            int classes = 1;
            int length = lengthOf(name);
            for (int k = 1; k < length && classes < MOST_CLASSES; k++) {
                int its = classOf(letterOf(name, k));
                if (its != 0 && its != before) {
                    heard |= its + 1 << 4 * classes;
                    classes++;
                }
                before = its;
            }
            return heard;
        }

        static int lengthOfSound(int heard) {
            int length = 0;
            while (length < MOST_CLASSES && classOfSound(heard, length) >= 0) length++;
            return length;
        }

        static int classOfSound(int heard, int k) {
            return (heard >>> 4 * k & 15) - 1;
        }

        boolean areAlike(long one, long other, int how) {
            if (how == SAME) return one == other;
            if (how == SOUNDS_SAME) return soundOf(one) == soundOf(other);
            return distance(one, other) <= 1;
        }

        /** row[j] is how far the letters of one taken so far are from the first j letters of other. */
        int distance(long one, long other) {
            int rows = lengthOf(one), columns = lengthOf(other);
            for (int j = 0; j <= columns; j++) row[j] = j;
            for (int i = 1; i <= rows; i++) {
                int slant = row[0];
                row[0] = i;
                for (int j = 1; j <= columns; j++) {
                    int change = letterOf(one, i - 1) == letterOf(other, j - 1) ? slant : slant + 1;
                    slant = row[j];
                    row[j] = Math.min(change, Math.min(slant, row[j - 1]) + 1);
                }
            }
            return row[columns];
        }
    }
}
