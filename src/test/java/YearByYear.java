import java.util.ArrayList;
import java.util.HashSet;
import java.util.List;
import java.util.Set;

/**
 * The document once more, in the slowest and plainest way: every year is looked at by itself, and
 * names are texts. ModelTest holds the class against it.
 */
final class YearByYear {
    private static final int UNKNOWN = -1, OUTSIDE = -2, STATE = -3, FULL = -4, NO = -5, NONE = -6, FAULT = -7;

    /** What holds behind some events. */
    private static final class World {
        final int[] owner = new int[12];
        final List<String> names = new ArrayList<>(List.of("a"));

        int sites(int parish) {
            int set = 0;
            for (int site = 0; site < 12; site++) if (owner[site] == parish) set += 1 << site;
            return set;
        }

        String nameOf(int parish) {
            return sites(parish) == 0 ? null : names.get(parish);
        }
    }

    private record Event(int kind, int year, int parish, int set, int whose, String name) {
        void on(World world) {
            if (kind == 0) world.names.set(parish, name);
            if (kind == 1) world.names.add(name);
            if (kind == 0) return;
            for (int site = 0; site < 12; site++) if ((set >> site) % 2 == 1) world.owner[site] = whose;
        }
    }

    private List<Event> events = new ArrayList<>();
    private final List<List<Event>> images = new ArrayList<>();
    private String pad = "";

    YearByYear() {
        images.add(null);
        images.add(null);
    }

    int answer(String call, int[] a) {
        switch (call) {
            case "say": return say(a[0]);
            case "wipe": return wipe();
            case "name": return tell(0, a[0], 0, NONE, a[1]);
            case "split": return tell(1, a[0], a[1], NONE, a[2]);
            case "merge": return tell(2, a[0], 0, a[1], a[2]);
            case "shift": return tell(3, a[0], a[1], a[2], a[3]);
            case "undo": return undo();
            case "event": return event(a[0], a[1]);
            case "at": return isNot(a[0], 12) ? UNKNOWN : isNot(a[1], 1000) ? OUTSIDE : in(a[1]).owner[a[0]];
            case "sites": return unknown(a[0]) ? UNKNOWN : isNot(a[1], 1000) ? OUTSIDE : in(a[1]).sites(a[0]);
            case "letter": return letter(a[0], a[1], a[2]);
            case "sound": return sound(a[0], a[1], a[2]);
            case "parish": return parish(a[0], a[1]);
            case "find": return find(a[0], a[1], a[2], a[3]);
            case "called": return called(a[0], a[1], a[2], a[3], a[4]);
            case "off": return off(a[0], a[1]);
            case "span": return span(a[0], a[1], a[2]);
            case "heirs": return heirs(a[0], a[1], a[2]);
            case "image": return image(a[0]);
            case "restore": return restore(a[0]);
            case "count": return count(a[0]);
            default: throw new IllegalArgumentException(call);
        }
    }

    private static boolean isNot(int number, int below) {
        return number < 0 || number >= below;
    }

    private boolean unknown(int parish) {
        return isNot(parish, last().names.size());
    }

    private World in(int year) {
        World world = new World();
        for (Event event : events) if (event.year <= year) event.on(world);
        return world;
    }

    private World last() {
        return in(999);
    }

    private List<World> everyYear() {
        List<World> all = new ArrayList<>();
        for (int year = 0; year < 1000; year++) {
            boolean changed = year == 0;
            for (Event event : events) changed |= event.year == year;
            all.add(changed ? in(year) : all.get(year - 1));
        }
        return all;
    }

    private int say(int letter) {
        if (letter < 'a' || letter > 'z') return OUTSIDE;
        if (pad.length() == 8) return FULL;
        pad += (char) letter;
        return pad.length();
    }

    private int wipe() {
        int had = pad.length();
        pad = "";
        return had;
    }

    private int tell(int kind, int parish, int set, int other, int year) {
        boolean twoParishes = kind >= 2, hasSet = kind % 2 == 1, hasName = kind < 2;
        if (unknown(parish) || twoParishes && unknown(other)) return UNKNOWN;
        if (twoParishes && parish == other || hasSet && isNot(set, 4096) || isNot(year, 1000)) return OUTSIDE;
        if (hasName && pad.isEmpty()) return FAULT;
        for (Event event : events) if (event.year > year) return STATE;
        World world = last();
        int had = world.sites(parish);
        if (had == 0 || twoParishes && world.sites(other) == 0) return NO;
        if (hasSet && (set == 0 || (set | had) != had || set == had)) return NO;
        if (events.size() == 30 || kind == 1 && world.names.size() == 16) return FULL;
        int whose = kind == 1 ? world.names.size() : other;
        events.add(new Event(kind, year, parish, kind == 2 ? had : set, whose, hasName ? pad : null));
        if (hasName) pad = "";
        return kind == 1 ? whose : events.size() - 1;
    }

    private int undo() {
        if (events.isEmpty()) return NONE;
        events.remove(events.size() - 1);
        return events.size();
    }

    private int event(int i, int what) {
        if (isNot(what, 5)) return OUTSIDE;
        if (isNot(i, events.size())) return NONE;
        Event e = events.get(i);
        if (what >= 3 && e.kind == 0) return NONE;
        return new int[] {e.kind, e.year, e.parish, e.set, e.whose}[what];
    }

    private int letter(int parish, int year, int k) {
        if (unknown(parish)) return UNKNOWN;
        if (isNot(year, 1000) || k < -1) return OUTSIDE;
        String name = in(year).nameOf(parish);
        if (name == null) return NONE;
        return k == -1 ? name.length() : k < name.length() ? name.charAt(k) : NONE;
    }

    private int sound(int parish, int year, int k) {
        if (unknown(parish)) return UNKNOWN;
        if (isNot(year, 1000) || k < -1) return OUTSIDE;
        String name = in(year).nameOf(parish);
        if (name == null) return NONE;
        String classes = soundOf(name);
        return k == -1 ? classes.length() : k < classes.length() ? classes.charAt(k) - '0' : NONE;
    }

    static String soundOf(String name) {
        String table = "01230120022455012623010202", classes = "", sound = "";
        for (char letter : name.toCharArray()) classes += table.charAt(letter - 'a');
        for (int k = 0; k < classes.length(); k++) {
            char its = classes.charAt(k);
            if (k == 0 || its != '0' && its != classes.charAt(k - 1)) sound += its;
        }
        return sound.length() > 4 ? sound.substring(0, 4) : sound;
    }

    static int offOf(String one, String other) {
        int[][] off = new int[one.length() + 1][other.length() + 1];
        for (int i = 0; i <= one.length(); i++) {
            for (int j = 0; j <= other.length(); j++) {
                if (i == 0 || j == 0) {
                    off[i][j] = i + j;
                    continue;
                }
                int changed = one.charAt(i - 1) == other.charAt(j - 1) ? 0 : 1;
                off[i][j] = Math.min(off[i - 1][j - 1] + changed, Math.min(off[i - 1][j], off[i][j - 1]) + 1);
            }
        }
        return off[one.length()][other.length()];
    }

    private boolean like(String name, int how) {
        if (name == null) return false;
        if (how == 0) return name.equals(pad);
        return how == 1 ? soundOf(name).equals(soundOf(pad)) : offOf(name, pad) <= 1;
    }

    private int parish(int parish, int what) {
        if (unknown(parish)) return UNKNOWN;
        if (isNot(what, 5)) return OUTSIDE;
        int first = NONE, last = NONE, years = 0, tell = 0, ever = 0;
        List<World> all = everyYear();
        for (int year = 0; year < 1000; year++) {
            int set = all.get(year).sites(parish);
            if (set == 0) continue;
            if (first == NONE) first = year;
            last = year;
            years++;
            ever |= set;
        }
        for (Event e : events) if (e.parish == parish || e.kind != 0 && e.whose == parish) tell++;
        return new int[] {first, last, years, tell, Integer.bitCount(ever)}[what];
    }

    private boolean notYears(int from, int to) {
        return isNot(from, 1000) || isNot(to, 1000) || to < from;
    }

    private int find(int from, int to, int how, int i) {
        if (notYears(from, to) || isNot(how, 3) || i < -1) return OUTSIDE;
        if (pad.isEmpty()) return FAULT;
        List<World> all = everyYear();
        List<Integer> found = new ArrayList<>();
        for (int parish = 0; parish < last().names.size(); parish++) {
            boolean was = false;
            World before = null;
            for (int year = from; year <= to && !was; year++) {
                World world = all.get(year);
                was = world != before && like(world.nameOf(parish), how);
                before = world;
            }
            if (was) found.add(parish);
        }
        return i == -1 ? found.size() : i < found.size() ? found.get(i) : NONE;
    }

    private int called(int site, int from, int to, int how, int what) {
        if (isNot(site, 12)) return UNKNOWN;
        if (notYears(from, to) || isNot(how, 3) || isNot(what, 3)) return OUTSIDE;
        if (pad.isEmpty()) return FAULT;
        List<World> all = everyYear();
        int years = 0, first = NONE, last = NONE;
        for (int year = from; year <= to; year++) {
            World world = all.get(year);
            if (!like(world.names.get(world.owner[site]), how)) continue;
            years++;
            if (first == NONE) first = year;
            last = year;
        }
        return new int[] {years, first, last}[what];
    }

    private int off(int parish, int year) {
        if (unknown(parish)) return UNKNOWN;
        if (isNot(year, 1000)) return OUTSIDE;
        if (pad.isEmpty()) return FAULT;
        String name = in(year).nameOf(parish);
        return name == null ? NONE : offOf(name, pad);
    }

    private int span(int site, int i, int what) {
        if (isNot(site, 12)) return UNKNOWN;
        if (i < -1 || isNot(what, 3)) return OUTSIDE;
        List<World> all = everyYear();
        List<int[]> spans = new ArrayList<>();
        String before = "";
        for (int year = 0; year < 1000; year++) {
            int owner = all.get(year).owner[site];
            String its = owner + " " + all.get(year).names.get(owner);
            if (!its.equals(before)) spans.add(new int[] {year, year, owner});
            spans.get(spans.size() - 1)[1] = year;
            before = its;
        }
        return i == -1 ? spans.size() : i < spans.size() ? spans.get(i)[what] : NONE;
    }

    private int heirs(int parish, int year, int then) {
        if (unknown(parish)) return UNKNOWN;
        if (isNot(year, 1000) || isNot(then, 1000)) return OUTSIDE;
        int heirs = 0;
        for (int site = 0; site < 12; site++) {
            if (in(year).owner[site] == parish) heirs |= 1 << in(then).owner[site];
        }
        return heirs;
    }

    private int image(int k) {
        if (isNot(k, 2)) return OUTSIDE;
        images.set(k, new ArrayList<>(events));
        return 1;
    }

    private int restore(int k) {
        if (isNot(k, 2)) return OUTSIDE;
        if (images.get(k) == null) return STATE;
        events = new ArrayList<>(images.get(k));
        return 1;
    }

    private int count(int what) {
        World world = last();
        Set<String> names = new HashSet<>();
        int there = 0, kinds = 0;
        for (int parish = 0; parish < world.names.size(); parish++) {
            if (world.nameOf(parish) == null) continue;
            there++;
            names.add(world.nameOf(parish));
        }
        for (Event e : events) if (e.kind == what - 10) kinds++;
        switch (what) {
            case 0: return events.size();
            case 1: return world.names.size();
            case 2: return pad.length();
            case 3: return events.isEmpty() ? 0 : events.get(events.size() - 1).year;
            case 4: return there;
            case 5: return names.size();
            case 6: return (images.get(0) == null ? 0 : 1) + (images.get(1) == null ? 0 : 2);
            default: return what >= 10 && what <= 13 ? kinds : OUTSIDE;
        }
    }
}
