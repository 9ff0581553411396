import java.util.Arrays;

/** The mayor is whoever was last surprised; the document's promises are a public method each. */
public final class SurprisedMayor {
    public static final int BAD = -1, STATE = -2, FULL = -3, NONE = -9;
    public static final int NO = -1000000;

    private static final int MOST_LETTERS = 150;
    private static final int MOST_PEOPLE = 5;
    private static final int MOST_KINDS = 4;
    private static final int MOST_PLACES = 4;
    private static final int KINDS_AT_FIRST = 3;
    private static final int PLACES_AT_FIRST = 2;
    private static final int MOST_NERVE = 99;
    private static final int MOST_SEEN_AT_FIRST = 9;
    private static final int MOST_SEEN = 999;
    private static final int MOST_UNDONE = 10;
    private static final int MOST_NOTED = 6;
    private static final int MOST_PLANNED = 3;
    private static final int MOST_DUELLED = 3;
    private static final int MOST_BY_CHANCE = 4;
    private static final int MOST_STALE = 99;
    private static final int FAULT_BASE = -10;

    private final Text text = new Text();
    private final Town folk = new Town();
    private final Now present = new Now();
    private final Past past = new Past();
    private final Foresight foresight = new Foresight();
    private final Notebook notebook = new Notebook();
    private final Now[] images = {new Now(), new Now()};
    private final boolean[] kept = {false, false};
    private long traced = 0;

    public SurprisedMayor() {
    }

    // ---- the town

    public int type(int letter) {
        if (letter < 0 || letter > 255) {
            return BAD;
        }
        if (text.length >= MOST_LETTERS) {
            return FULL;
        }
        text.letters[text.length] = letter;
        text.length++;
        return text.length;
    }

    public int clear() {
        int had = text.length;
        text.length = 0;
        return had;
    }

    public int town() {
        int items = text.read();
        if (items < 0) {
            return items;
        }
        folk.copyFrom(text.draftTown);
        present.copyFrom(text.draftNow);
        text.length = 0;
        past.known = 0;
        notebook.noted = 0;
        kept[0] = false;
        kept[1] = false;
        return items;
    }

    public int person(int p, int what) {
        if (!folk.hasPerson(p)) {
            return BAD;
        }
        switch (what) {
            case 0:
                return folk.nerve[p];
            case 1:
                return present.place[p];
            case 2:
                return present.terms[p];
            case 3:
                return present.seenInAll[p];
            default:
                return BAD;
        }
    }

    public int seen(int p, int kind) {
        if (!folk.hasPerson(p) || !folk.hasKind(kind)) {
            return BAD;
        }
        return present.seenOf(p, kind);
    }

    public int surprise(int p, int kind) {
        if (!folk.hasPerson(p) || !folk.hasKind(kind)) {
            return BAD;
        }
        return folk.shock(present, p, kind);
    }

    public int now(int what) {
        switch (what) {
            case 0:
                return present.mayor;
            case 1:
                return present.allTerms();
            case 2:
                return folk.greatestShock(present);
            case 3:
                return past.known;
            default:
                return NO;
        }
    }

    // ---- what is done

    public int happens(int kind, int place) {
        if (!folk.hasKind(kind) || !folk.hasPlace(place)) {
            return BAD;
        }
        past.remember(present);
        return folk.happen(present, kind, place);
    }

    public int walks(int p, int place) {
        if (!folk.hasPerson(p) || !folk.hasPlace(place)) {
            return BAD;
        }
        int till = present.place[p];
        if (till == place) {
            return STATE;
        }
        past.remember(present);
        present.place[p] = place;
        return till;
    }

    public int tells(int p, int kind) {
        if (!folk.hasPerson(p) || !folk.hasKind(kind)) {
            return BAD;
        }
        past.remember(present);
        present.see(p, kind);
        return present.seenOf(p, kind);
    }

    public int abdicates() {
        int mayor = present.mayor;
        if (mayor == NONE) {
            return STATE;
        }
        past.remember(present);
        present.mayor = NONE;
        return mayor;
    }

    public int undo() {
        if (past.known == 0) {
            return STATE;
        }
        past.restore(present);
        return past.known;
    }

    // ---- foretold

    public int who(int kind, int place) {
        if (!folk.hasKind(kind) || !folk.hasPlace(place)) {
            return BAD;
        }
        return folk.mayorBy(present, kind, place);
    }

    public int plan(int p, int k) {
        if (!folk.hasPerson(p) || k < -1 || k >= MOST_PLANNED) {
            return BAD;
        }
        int fewest = foresight.fewest(folk, present, p);
        if (k == -1) {
            return fewest;
        }
        return k < fewest ? foresight.planned[k] : NONE;
    }

    public int duel(int p, int n, int what) {
        if (!folk.hasPerson(p) || n < 0 || n > MOST_DUELLED || !isBit(what)) {
            return BAD;
        }
        int opening = foresight.opening(folk, present, p, n);
        if (what == 1) {
            return opening;
        }
        boolean wins = n == 0 ? present.mayor == p : opening != NONE;
        return wins ? 1 : 0;
    }

    public int stale(int kind, int place) {
        if (!folk.hasKind(kind) || !folk.hasPlace(place)) {
            return BAD;
        }
        return foresight.timesTillStale(folk, present, kind, place);
    }

    public int odds(int p, int place, int n, int what) {
        if (!folk.hasPerson(p) || !folk.hasPlace(place)) {
            return BAD;
        }
        if (n < 0 || n > MOST_BY_CHANCE || !isBit(what)) {
            return BAD;
        }
        int upper = foresight.ways(folk, present, p, place, n);
        int lower = 1;
        for (int i = 0; i < n; i++) {
            lower *= folk.kinds;
        }
        int common = Math.max(1, commonDivisor(upper, lower));
        return (what == 0 ? upper : lower) / common;
    }

    // ---- nerves

    public int notes(int p, int kind, int jumped) {
        if (!folk.hasPerson(p) || !folk.hasKind(kind) || !isBit(jumped)) {
            return BAD;
        }
        if (notebook.noted >= MOST_NOTED) {
            return FULL;
        }
        notebook.add(p, kind, jumped == 1);
        return notebook.noted;
    }

    public int forget() {
        int had = notebook.noted;
        notebook.noted = 0;
        return had;
    }

    public int nerves(int p, int what) {
        if (!folk.hasPerson(p) || what < 0 || what > 2) {
            return BAD;
        }
        notebook.weigh(folk, present, p);
        if (what == 0) {
            return notebook.possible();
        }
        if (notebook.possible() == 0) {
            return NONE;
        }
        return what == 1 ? notebook.least : notebook.greatest;
    }

    public int test(int p) {
        if (!folk.hasPerson(p)) {
            return BAD;
        }
        notebook.weigh(folk, present, p);
        return notebook.bestTry(folk, present, p);
    }

    // ---- kinds, images

    public int rate(int kind, int p) {
        if (!folk.hasPerson(p)) {
            return NO;
        }
        switch (kind) {
            case 0:
                return asOne(p);
            case 1:
                return asGirl(p);
            case 2:
                return asCool(p);
            case 3:
                return asChild(p);
            case 4:
                return asSage(p);
            case 5:
                return asTwin(p);
            default:
                return NO;
        }
    }

    public int keep(int image) {
        if (!isBit(image)) {
            return BAD;
        }
        images[image].copyFrom(present);
        kept[image] = true;
        return present.termHolders();
    }

    public int back(int image) {
        if (!isBit(image)) {
            return BAD;
        }
        if (!kept[image]) {
            return STATE;
        }
        present.copyFrom(images[image]);
        past.known = 0;
        return present.termHolders();
    }

    public int count(int what) {
        switch (what) {
            case 0:
                return folk.kinds;
            case 1:
                return folk.places;
            case 2:
                return folk.people;
            case 3:
                return notebook.noted;
            case 4:
                return text.length;
            default:
                return BAD;
        }
    }

    public long trace() {
        return traced;
    }

    private static boolean isBit(int number) {
        return number == 0 || number == 1;
    }

    private static int commonDivisor(int one, int other) {
        int a = one;
        int b = other;
        // numbers to 256 need far fewer steps; the bound is only there to be seen
        for (int step = 0; step < 64 && b != 0; step++) {
            int rest = a % b;
            a = b;
            b = rest;
        }
        return a;
    }

    // A KIND of PEOPLE each: it asks the KIND above once, so THE TRACE grows once a body.

    private int asOne(int p) {
        traced += 1;
        return folk.nerve[p];
    }

    private int asGirl(int p) {
        traced += 10;
        return asOne(p) + present.terms[p];
    }

    private int asCool(int p) {
        traced += 100;
        return asOne(p) - present.seenInAll[p];
    }

    private int asChild(int p) {
        traced += 1000;
        return 2 * asGirl(p);
    }

    private int asSage(int p) {
        traced += 10000;
        return asCool(p) + p;
    }

    private int asTwin(int p) {
        traced += 100000;
        return asOne(p) + present.place[p];
    }

    /** All that events, walks and words change. */
    private static final class Now {
        int mayor = NONE;
        final int[] place = new int[MOST_PEOPLE];
        final int[] terms = new int[MOST_PEOPLE];
        final int[] seenCells = new int[MOST_PEOPLE * MOST_KINDS];
        // kept beside the cells, because every SURPRISE asks for it
        final int[] seenInAll = new int[MOST_PEOPLE];

        void reset() {
            mayor = NONE;
            Arrays.fill(place, 0);
            Arrays.fill(terms, 0);
            Arrays.fill(seenCells, 0);
            Arrays.fill(seenInAll, 0);
        }

        void copyFrom(Now other) {
            mayor = other.mayor;
            System.arraycopy(other.place, 0, place, 0, MOST_PEOPLE);
            System.arraycopy(other.terms, 0, terms, 0, MOST_PEOPLE);
            System.arraycopy(other.seenCells, 0, seenCells, 0, MOST_PEOPLE * MOST_KINDS);
            System.arraycopy(other.seenInAll, 0, seenInAll, 0, MOST_PEOPLE);
        }

        int seenOf(int p, int kind) {
            return seenCells[p * MOST_KINDS + kind];
        }

        void addSeen(int p, int kind, int times) {
            seenCells[p * MOST_KINDS + kind] += times;
            seenInAll[p] += times;
        }

        void see(int p, int kind) {
            if (seenOf(p, kind) < MOST_SEEN) {
                addSeen(p, kind, 1);
            }
        }

        void crown(int p) {
            if (p == mayor || p < 0 || p >= MOST_PEOPLE) {
                return;
            }
            mayor = p;
            terms[p]++;
        }

        int allTerms() {
            int sum = 0;
            for (int p = 0; p < MOST_PEOPLE; p++) {
                sum += terms[p];
            }
            return sum;
        }

        int termHolders() {
            int holders = 0;
            for (int p = 0; p < MOST_PEOPLE; p++) {
                if (terms[p] > 0) {
                    holders++;
                }
            }
            return holders;
        }
    }

    /** What only a text changes, and the rules by which people are surprised. */
    private static final class Town {
        int kinds = KINDS_AT_FIRST;
        int places = PLACES_AT_FIRST;
        int people = 0;
        final int[] nerve = new int[MOST_PEOPLE];

        void reset() {
            kinds = KINDS_AT_FIRST;
            places = PLACES_AT_FIRST;
            people = 0;
            Arrays.fill(nerve, 0);
        }

        void copyFrom(Town other) {
            kinds = other.kinds;
            places = other.places;
            people = other.people;
            System.arraycopy(other.nerve, 0, nerve, 0, MOST_PEOPLE);
        }

        boolean hasKind(int kind) {
            return kind >= 0 && kind < kinds;
        }

        boolean hasPlace(int place) {
            return place >= 0 && place < places;
        }

        boolean hasPerson(int p) {
            return p >= 0 && p < people;
        }

        int shock(Now now, int p, int kind) {
            int all = now.seenInAll[p] + kinds;
            if (all <= 0) {
                return 0;
            }
            return 100 - 100 * (now.seenCells[p * MOST_KINDS + kind] + 1) / all;
        }

        int greatestShock(Now now) {
            int most = -1;
            for (int p = 0; p < people; p++) {
                for (int kind = 0; kind < kinds; kind++) {
                    most = Math.max(most, shock(now, p, kind));
                }
            }
            return most;
        }

        int jumpers(Now now, int kind, int place) {
            int bits = 0;
            for (int p = 0; p < people; p++) {
                if (now.place[p] == place && shock(now, p, kind) >= nerve[p]) {
                    bits |= 1 << p;
                }
            }
            return bits;
        }

        int mayorBy(Now now, int kind, int place) {
            int mayor = now.mayor;
            int most = -1;
            for (int p = 0; p < people; p++) {
                if (now.place[p] == place) {
                    int shock = shock(now, p, kind);
                    if (shock >= nerve[p] && shock > most) {
                        most = shock;
                        mayor = p;
                    }
                }
            }
            return mayor;
        }

        int happen(Now now, int kind, int place) {
            int bits = jumpers(now, kind, place);
            now.crown(mayorBy(now, kind, place));
            for (int p = 0; p < people; p++) {
                if (now.place[p] == place) {
                    now.see(p, kind);
                }
            }
            return bits;
        }
    }

    /** THE TEXT; it is read into a draft, so that a FAULT leaves the town as it is. */
    private static final class Text {
        // beyond all letters, so that a letter can stand for itself as a token
        private static final int NUMBER = 256;
        private static final int WRONG = 257;
        private static final int END = 258;

        final int[] letters = new int[MOST_LETTERS];
        int length = 0;
        final Town draftTown = new Town();
        final Now draftNow = new Now();
        private boolean kindsTold = false;
        private boolean placesTold = false;
        private int at = 0;
        private int start = 0;
        private int token = END;
        private int number = 0;

        /** How many ITEMS; or -10 less FAULT, which is where the reading stopped. */
        int read() {
            draftTown.reset();
            draftNow.reset();
            kindsTold = false;
            placesTold = false;
            at = 0;
            for (int items = 0; items <= MOST_LETTERS; items++) {
                advance();
                if (token == END) {
                    return items;
                }
                if (!readItem() || !readEnd()) {
                    return FAULT_BASE - start;
                }
            }
            return FAULT_BASE - start;
        }

        private boolean readItem() {
            switch (token) {
                case 'k':
                    return readKinds();
                case 'x':
                    return readPlaces();
                case 'p':
                    return readPerson();
                default:
                    return false;
            }
        }

        private boolean readKinds() {
            if (kindsTold || draftTown.people > 0 || !readNumber(1, MOST_KINDS)) {
                return false;
            }
            kindsTold = true;
            draftTown.kinds = number;
            return true;
        }

        private boolean readPlaces() {
            if (placesTold || draftTown.people > 0 || !readNumber(1, MOST_PLACES)) {
                return false;
            }
            placesTold = true;
            draftTown.places = number;
            return true;
        }

        private boolean readPerson() {
            int p = draftTown.people;
            if (p >= MOST_PEOPLE || !readNumber(0, MOST_NERVE)) {
                return false;
            }
            draftTown.nerve[p] = number;
            if (!readNumber(0, draftTown.places - 1)) {
                return false;
            }
            draftNow.place[p] = number;
            for (int kind = 0; kind < draftTown.kinds; kind++) {
                if (!readNumber(0, MOST_SEEN_AT_FIRST)) {
                    return false;
                }
                draftNow.addSeen(p, kind, number);
            }
            draftTown.people++;
            return true;
        }

        private boolean readNumber(int lowest, int highest) {
            advance();
            return token == NUMBER && number >= lowest && number <= highest;
        }

        private boolean readEnd() {
            advance();
            return token == ';';
        }

        /** Goes to the next token: start is its place, and the text's length at the end. */
        private void advance() {
            while (at < length && letters[at] == ' ') {
                at++;
            }
            start = at;
            if (at >= length) {
                token = END;
            } else if (isDigit(letters[at])) {
                advanceOverNumber();
            } else {
                int letter = letters[at];
                token = letter == 'k' || letter == 'x' || letter == 'p' || letter == ';' ? letter : WRONG;
                at++;
            }
        }

        private void advanceOverNumber() {
            boolean zeroAhead = letters[at] == '0';
            number = 0;
            while (at < length && isDigit(letters[at])) {
                // held at 100, which is too great already, so that no length overflows
                number = Math.min(100, number * 10 + letters[at] - '0');
                at++;
            }
            boolean wrong = number > 99 || (zeroAhead && at - start > 1);
            token = wrong ? WRONG : NUMBER;
        }

        private static boolean isDigit(int letter) {
            return letter >= '0' && letter <= '9';
        }
    }

    /** The latest things done, as what was NOW ahead of each; the oldest gives way. */
    private static final class Past {
        private final Now[] rows = new Now[MOST_UNDONE];
        private int next = 0;
        int known = 0;

        Past() {
            for (int i = 0; i < MOST_UNDONE; i++) {
                rows[i] = new Now();
            }
        }

        void remember(Now now) {
            rows[next].copyFrom(now);
            next = (next + 1) % MOST_UNDONE;
            known = Math.min(MOST_UNDONE, known + 1);
        }

        void restore(Now now) {
            if (known <= 0) {
                return;
            }
            next = (next + MOST_UNDONE - 1) % MOST_UNDONE;
            known--;
            now.copyFrom(rows[next]);
        }
    }

    /** What could come; it is tried on rows of its own, one for each EVENT still to come. */
    private static final class Foresight {
        private final Now[] rows = new Now[MOST_BY_CHANCE];
        final int[] planned = new int[MOST_PLANNED];

        Foresight() {
            for (int i = 0; i < MOST_BY_CHANCE; i++) {
                rows[i] = new Now();
            }
        }

        private Now behind(Town town, Now from, int left, int kind, int place) {
            Now row = rows[left - 1];
            row.copyFrom(from);
            town.happen(row, kind, place);
            return row;
        }

        /** PLAN's number of EVENTS, which are in planned then; NONE. */
        int fewest(Town town, Now now, int p) {
            if (now.mayor == p) {
                return 0;
            }
            for (int n = 1; n <= MOST_PLANNED; n++) {
                if (leads(town, now, p, n, n)) {
                    return n;
                }
            }
            return NONE;
        }

        // Only EVENTS where p is can help: what happens elsewhere changes nothing for those
        // who are with him, so a row with such an EVENT would not be among the shortest.
        private boolean leads(Town town, Now from, int p, int left, int n) {
            if (left <= 0 || left > n || n > MOST_PLANNED) {
                return from.mayor == p;
            }
            int place = from.place[p];
            for (int kind = 0; kind < town.kinds; kind++) {
                planned[n - left] = 10 * kind + place;
                Now row = behind(town, from, left, kind, place);
                if (leads(town, row, p, left - 1, n)) {
                    return true;
                }
            }
            return false;
        }

        /** The lowest EVENT by which the first one can begin and win; NONE. */
        int opening(Town town, Now now, int p, int n) {
            if (n <= 0 || n > MOST_DUELLED) {
                return NONE;
            }
            for (int kind = 0; kind < town.kinds; kind++) {
                for (int place = 0; place < town.places; place++) {
                    if (winsBehind(town, now, p, n, true, 10 * kind + place)) {
                        return 10 * kind + place;
                    }
                }
            }
            return NONE;
        }

        private boolean winsBehind(Town town, Now from, int p, int left, boolean firstsTurn, int event) {
            int kind = event / 10;
            int place = event % 10;
            if (left <= 1 || left > MOST_DUELLED) {
                return town.mayorBy(from, kind, place) == p;
            }
            return firstWins(town, behind(town, from, left, kind, place), p, left - 1, !firstsTurn);
        }

        private boolean firstWins(Town town, Now from, int p, int left, boolean firstsTurn) {
            for (int kind = 0; kind < town.kinds; kind++) {
                for (int place = 0; place < town.places; place++) {
                    // who has the turn takes the first EVENT that is as he wants it
                    if (winsBehind(town, from, p, left, firstsTurn, 10 * kind + place) == firstsTurn) {
                        return firstsTurn;
                    }
                }
            }
            return !firstsTurn;
        }

        int timesTillStale(Town town, Now now, int kind, int place) {
            Now row = rows[0];
            row.copyFrom(now);
            for (int times = 0; times <= MOST_STALE; times++) {
                if (town.happen(row, kind, place) == 0) {
                    return times;
                }
            }
            return NONE;
        }

        /** By how many rows of that many KINDS at a PLACE p is MAYOR at last. */
        int ways(Town town, Now now, int p, int place, int n) {
            return waysBehind(town, now, p, place, n);
        }

        private int waysBehind(Town town, Now from, int p, int place, int left) {
            if (left <= 0 || left > MOST_BY_CHANCE) {
                return from.mayor == p ? 1 : 0;
            }
            int sum = 0;
            for (int kind = 0; kind < town.kinds; kind++) {
                sum += waysBehind(town, behind(town, from, left, kind, place), p, place, left - 1);
            }
            return sum;
        }
    }

    /** What was NOTED, and which NERVES it leaves: always a stretch from least to greatest. */
    private static final class Notebook {
        private final int[] persons = new int[MOST_NOTED];
        private final int[] kinds = new int[MOST_NOTED];
        private final boolean[] jumps = new boolean[MOST_NOTED];
        int noted = 0;
        int least = 0;
        int greatest = MOST_NERVE;

        void add(int p, int kind, boolean jumped) {
            if (noted >= MOST_NOTED) {
                return;
            }
            persons[noted] = p;
            kinds[noted] = kind;
            jumps[noted] = jumped;
            noted++;
        }

        void weigh(Town town, Now now, int p) {
            least = 0;
            greatest = MOST_NERVE;
            for (int i = 0; i < noted; i++) {
                if (persons[i] == p) {
                    int shock = town.shock(now, p, kinds[i]);
                    if (jumps[i]) {
                        greatest = Math.min(greatest, shock);
                    } else {
                        least = Math.max(least, shock + 1);
                    }
                }
            }
        }

        int possible() {
            return Math.max(0, greatest - least + 1);
        }

        /** TRY by the stretch that was weighed last. */
        int bestTry(Town town, Now now, int p) {
            int all = possible();
            if (all <= 1) {
                return NONE;
            }
            int best = NONE;
            int smallest = all + 1;
            for (int kind = 0; kind < town.kinds; kind++) {
                int top = Math.min(greatest, town.shock(now, p, kind));
                int jumping = Math.max(0, top - least + 1);
                int greater = Math.max(jumping, all - jumping);
                if (greater < smallest) {
                    smallest = greater;
                    best = kind;
                }
            }
            return best;
        }
    }
}
