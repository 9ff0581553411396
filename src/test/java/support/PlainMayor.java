import java.util.ArrayList;
import java.util.List;
import java.util.regex.Matcher;
import java.util.regex.Pattern;

/**
 * The document once more, by other means and without any shortcut: states are never changed but made
 * anew, the text is cut by a regular expression, and what is foretold is tried event by event.
 */
public final class PlainMayor {
    static final int BAD = -1, STATE = -2, FULL = -3, NONE = -9, NO = -1000000;

    record One(int nerve, int place, int terms, List<Integer> seen) {
        int all() {
            return seen.stream().mapToInt(Integer::intValue).sum();
        }

        int surprise(int kind) {
            return 100 - (int) Math.floor(100.0 * (seen.get(kind) + 1) / (all() + seen.size()) + 1e-9);
        }

        boolean jumps(int kind) {
            return surprise(kind) >= nerve;
        }

        One at(int where) {
            return new One(nerve, where, terms, seen);
        }

        One withTerm() {
            return new One(nerve, place, terms + 1, seen);
        }

        One having(int kind) {
            List<Integer> more = new ArrayList<>(seen);
            more.set(kind, Math.min(999, more.get(kind) + 1));
            return new One(nerve, place, terms, more);
        }
    }

    record World(int kinds, int places, int mayor, List<One> people) {
        int jumping(int kind, int place) {
            int bits = 0;
            for (int p = 0; p < people.size(); p++) {
                if (people.get(p).place() == place && people.get(p).jumps(kind)) {
                    bits += 1 << p;
                }
            }
            return bits;
        }

        World behind(int kind, int place) {
            int chosen = -1;
            int bits = jumping(kind, place);
            for (int p = people.size() - 1; p >= 0; p--) {
                boolean in = (bits >> p & 1) == 1;
                if (in && (chosen < 0 || people.get(p).surprise(kind) >= people.get(chosen).surprise(kind))) {
                    chosen = p;
                }
            }
            List<One> then = new ArrayList<>();
            for (int p = 0; p < people.size(); p++) {
                One one = people.get(p);
                if (p == chosen && chosen != mayor) {
                    one = one.withTerm();
                }
                then.add(one.place() == place ? one.having(kind) : one);
            }
            return new World(kinds, places, chosen < 0 ? mayor : chosen, then);
        }

        World with(int p, One one) {
            List<One> then = new ArrayList<>(people);
            then.set(p, one);
            return new World(kinds, places, mayor, then);
        }

        int termed() {
            return (int) people.stream().filter(one -> one.terms() > 0).count();
        }
    }

    record Note(int p, int kind, int jumped) {
    }

    private String text = "";
    private World world = new World(3, 2, NONE, List.of());
    private final List<World> past = new ArrayList<>();
    private final List<Note> noted = new ArrayList<>();
    private final World[] images = new World[2];
    private long trace = 0;

    private boolean noPerson(int p) {
        return p < 0 || p >= world.people().size();
    }

    private boolean noKind(int kind) {
        return kind < 0 || kind >= world.kinds();
    }

    private boolean noPlace(int place) {
        return place < 0 || place >= world.places();
    }

    private void become(World then) {
        past.add(world);
        if (past.size() > 10) {
            past.remove(0);
        }
        world = then;
    }

    public int type(int letter) {
        if (letter < 0 || letter > 255) {
            return BAD;
        }
        if (text.length() == 150) {
            return FULL;
        }
        text += (char) letter;
        return text.length();
    }

    public int clear() {
        int had = text.length();
        text = "";
        return had;
    }

    private record Token(String word, int place) {
    }

    private static List<Token> tokens(String text) {
        List<Token> all = new ArrayList<>();
        Matcher m = Pattern.compile("[0-9]+|[^ 0-9]", Pattern.DOTALL).matcher(text);
        while (m.find()) {
            all.add(new Token(m.group(), m.start()));
        }
        return all;
    }

    /** A number's value, or -1 for what is no number that may stand in a text. */
    private static int value(String word) {
        return word.matches("0|[1-9][0-9]?") ? Integer.parseInt(word) : -1;
    }

    public int town() {
        int kinds = 3, places = 2, items = 0;
        boolean k = false, x = false;
        List<One> people = new ArrayList<>();
        // what the item that is open still asks for: pairs of lowest, highest; then its end
        List<int[]> asked = new ArrayList<>();
        List<Integer> got = new ArrayList<>();
        String open = "";
        for (Token t : tokens(text)) {
            String w = t.word();
            boolean fits;
            if (open.isEmpty()) {
                fits = w.equals("k") && !k && people.isEmpty() || w.equals("x") && !x && people.isEmpty()
                        || w.equals("p") && people.size() < 5;
                open = w;
                got.clear();
                asked.clear();
                if (w.equals("p")) {
                    asked.add(new int[] {0, 99});
                    asked.add(new int[] {0, places - 1});
                    for (int i = 0; i < kinds; i++) {
                        asked.add(new int[] {0, 9});
                    }
                } else {
                    asked.add(new int[] {1, 4});
                }
            } else if (!asked.isEmpty()) {
                int[] range = asked.remove(0);
                int v = value(w);
                fits = v >= range[0] && v <= range[1] && v >= 0;
                got.add(v);
            } else {
                fits = w.equals(";");
                if (fits) {
                    items++;
                    if (open.equals("k")) {
                        kinds = got.get(0);
                        k = true;
                    } else if (open.equals("x")) {
                        places = got.get(0);
                        x = true;
                    } else {
                        people.add(new One(got.get(0), got.get(1), 0, List.copyOf(got.subList(2, got.size()))));
                    }
                    open = "";
                }
            }
            if (!fits) {
                return -10 - t.place();
            }
        }
        if (!open.isEmpty()) {
            return -10 - text.length();
        }
        world = new World(kinds, places, NONE, people);
        text = "";
        past.clear();
        noted.clear();
        images[0] = null;
        images[1] = null;
        return items;
    }

    public int person(int p, int what) {
        if (noPerson(p) || what < 0 || what > 3) {
            return BAD;
        }
        One one = world.people().get(p);
        return new int[] {one.nerve(), one.place(), one.terms(), one.all()}[what];
    }

    public int seen(int p, int kind) {
        return noPerson(p) || noKind(kind) ? BAD : world.people().get(p).seen().get(kind);
    }

    public int surprise(int p, int kind) {
        return noPerson(p) || noKind(kind) ? BAD : world.people().get(p).surprise(kind);
    }

    public int now(int what) {
        if (what == 0) {
            return world.mayor();
        }
        if (what == 1) {
            return world.people().stream().mapToInt(One::terms).sum();
        }
        if (what == 2) {
            int most = -1;
            for (One one : world.people()) {
                for (int kind = 0; kind < world.kinds(); kind++) {
                    most = Math.max(most, one.surprise(kind));
                }
            }
            return most;
        }
        return what == 3 ? past.size() : NO;
    }

    public int happens(int kind, int place) {
        if (noKind(kind) || noPlace(place)) {
            return BAD;
        }
        int bits = world.jumping(kind, place);
        become(world.behind(kind, place));
        return bits;
    }

    public int walks(int p, int place) {
        if (noPerson(p) || noPlace(place)) {
            return BAD;
        }
        One one = world.people().get(p);
        if (one.place() == place) {
            return STATE;
        }
        become(world.with(p, one.at(place)));
        return one.place();
    }

    public int tells(int p, int kind) {
        if (noPerson(p) || noKind(kind)) {
            return BAD;
        }
        become(world.with(p, world.people().get(p).having(kind)));
        return seen(p, kind);
    }

    public int abdicates() {
        int was = world.mayor();
        if (was == NONE) {
            return STATE;
        }
        become(new World(world.kinds(), world.places(), NONE, world.people()));
        return was;
    }

    public int undo() {
        if (past.isEmpty()) {
            return STATE;
        }
        world = past.remove(past.size() - 1);
        return past.size();
    }

    public int who(int kind, int place) {
        return noKind(kind) || noPlace(place) ? BAD : world.behind(kind, place).mayor();
    }

    private static List<Integer> events(World w) {
        List<Integer> all = new ArrayList<>();
        for (int kind = 0; kind < w.kinds(); kind++) {
            for (int place = 0; place < w.places(); place++) {
                all.add(10 * kind + place);
            }
        }
        return all;
    }

    private static List<Integer> row(World w, int p, int n) {
        if (n == 0) {
            return w.mayor() == p ? List.of() : null;
        }
        for (int event : events(w)) {
            List<Integer> rest = row(w.behind(event / 10, event % 10), p, n - 1);
            if (rest != null) {
                List<Integer> whole = new ArrayList<>(List.of(event));
                whole.addAll(rest);
                return whole;
            }
        }
        return null;
    }

    public int plan(int p, int k) {
        if (noPerson(p) || k < -1 || k > 2) {
            return BAD;
        }
        for (int n = 0; n <= 3; n++) {
            List<Integer> found = row(world, p, n);
            if (found != null) {
                return k == -1 ? n : k < n ? found.get(k) : NONE;
            }
        }
        return NONE;
    }

    /** 1: the first one wins; no turn is cut short. */
    private static int won(World w, int p, int n, boolean first) {
        if (n == 0) {
            return w.mayor() == p ? 1 : 0;
        }
        int best = first ? 0 : 1;
        for (int event : events(w)) {
            int then = won(w.behind(event / 10, event % 10), p, n - 1, !first);
            best = first ? Math.max(best, then) : Math.min(best, then);
        }
        return best;
    }

    public int duel(int p, int n, int what) {
        if (noPerson(p) || n < 0 || n > 3 || what < 0 || what > 1) {
            return BAD;
        }
        if (what == 0) {
            return won(world, p, n, true);
        }
        if (n > 0) {
            for (int event : events(world)) {
                if (won(world.behind(event / 10, event % 10), p, n - 1, false) == 1) {
                    return event;
                }
            }
        }
        return NONE;
    }

    public int stale(int kind, int place) {
        if (noKind(kind) || noPlace(place)) {
            return BAD;
        }
        World w = world;
        int times = 0;
        while (times < 100 && w.jumping(kind, place) != 0) {
            w = w.behind(kind, place);
            times++;
        }
        return times > 99 ? NONE : times;
    }

    private static int ways(World w, int p, int place, int n) {
        if (n == 0) {
            return w.mayor() == p ? 1 : 0;
        }
        int sum = 0;
        for (int kind = 0; kind < w.kinds(); kind++) {
            sum += ways(w.behind(kind, place), p, place, n - 1);
        }
        return sum;
    }

    public int odds(int p, int place, int n, int what) {
        if (noPerson(p) || noPlace(place) || n < 0 || n > 4 || what < 0 || what > 1) {
            return BAD;
        }
        int upper = ways(world, p, place, n);
        int lower = (int) Math.round(Math.pow(world.kinds(), n));
        for (int d = lower; d > 1; d--) {
            if (upper % d == 0 && lower % d == 0) {
                upper /= d;
                lower /= d;
            }
        }
        return what == 0 ? upper : lower;
    }

    public int notes(int p, int kind, int jumped) {
        if (noPerson(p) || noKind(kind) || jumped < 0 || jumped > 1) {
            return BAD;
        }
        if (noted.size() == 6) {
            return FULL;
        }
        noted.add(new Note(p, kind, jumped));
        return noted.size();
    }

    public int forget() {
        int had = noted.size();
        noted.clear();
        return had;
    }

    private List<Integer> possible(int p) {
        List<Integer> all = new ArrayList<>();
        for (int nerve = 0; nerve <= 99; nerve++) {
            boolean fits = true;
            for (Note note : noted) {
                if (note.p() == p) {
                    fits &= (surprise(p, note.kind()) >= nerve) == (note.jumped() == 1);
                }
            }
            if (fits) {
                all.add(nerve);
            }
        }
        return all;
    }

    public int nerves(int p, int what) {
        if (noPerson(p) || what < 0 || what > 2) {
            return BAD;
        }
        List<Integer> all = possible(p);
        if (what == 0) {
            return all.size();
        }
        return all.isEmpty() ? NONE : all.get(what == 1 ? 0 : all.size() - 1);
    }

    public int test(int p) {
        if (noPerson(p)) {
            return BAD;
        }
        List<Integer> all = possible(p);
        if (all.size() <= 1) {
            return NONE;
        }
        int best = 0;
        long least = Long.MAX_VALUE;
        for (int kind = 0; kind < world.kinds(); kind++) {
            int s = surprise(p, kind);
            long jumping = all.stream().filter(nerve -> s >= nerve).count();
            long part = Math.max(jumping, all.size() - jumping);
            if (part < least) {
                least = part;
                best = kind;
            }
        }
        return best;
    }

    public int rate(int kind, int p) {
        if (noPerson(p) || kind < 0 || kind > 5) {
            return NO;
        }
        One one = world.people().get(p);
        trace += new int[] {1, 11, 101, 1011, 10101, 100001}[kind];
        int girl = one.nerve() + one.terms();
        int cool = one.nerve() - one.all();
        return new int[] {one.nerve(), girl, cool, 2 * girl, cool + p, one.nerve() + one.place()}[kind];
    }

    public int keep(int image) {
        if (image < 0 || image > 1) {
            return BAD;
        }
        images[image] = world;
        return world.termed();
    }

    public int back(int image) {
        if (image < 0 || image > 1) {
            return BAD;
        }
        if (images[image] == null) {
            return STATE;
        }
        world = images[image];
        past.clear();
        return world.termed();
    }

    public int count(int what) {
        if (what < 0 || what > 4) {
            return BAD;
        }
        return new int[] {world.kinds(), world.places(), world.people().size(), noted.size(), text.length()}[what];
    }

    public long trace() {
        return trace;
    }
}
