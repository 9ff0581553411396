import java.util.Random;

/** Long mixed runs, each call asked of the class and of PlainMayor alike. */
public final class AgainstPlainTest {
    private static final int RUNS = 1500;
    private static final int CALLS = 512;

    private final Random random;
    private final int run;
    private SurprisedMayor x;
    private PlainMayor y;
    private int calls;

    private AgainstPlainTest(int run) {
        this.run = run;
        this.random = new Random(7919L * run + 11);
    }

    public static void main(String[] args) {
        Check all = new Check();
        for (int run = 0; run < RUNS; run++) {
            new AgainstPlainTest(run).play(all);
        }
        all.end();
    }

    private void due(Check all, String call, long got, long want) {
        calls++;
        all.due("run " + run + ", call " + calls + ", " + call, got, want);
    }

    private void play(Check all) {
        x = new SurprisedMayor();
        y = new PlainMayor();
        calls = 0;
        boolean wild = run % 3 == 0;
        while (calls < CALLS - 160) {
            if (calls == 0 || random.nextInt(wild ? 25 : 150) == 0) {
                tell(all, wild);
            } else {
                one(all);
            }
        }
        if (random.nextInt(10) == 0) {
            all(all);
        }
    }

    private int below(int n) {
        return random.nextInt(n);
    }

    /** Mostly a number that may be, at times one just outside. */
    private int near(int n) {
        return random.nextInt(12) == 0 ? random.nextInt(n + 4) - 2 : random.nextInt(Math.max(1, n));
    }

    private int p() {
        return near(y.count(2));
    }

    private int kind() {
        return near(y.count(0));
    }

    private int place() {
        return near(y.count(1));
    }

    private String blanks(boolean needed) {
        int n = below(4) == 0 ? below(3) : 0;
        return " ".repeat(needed ? Math.max(1, n) : n);
    }

    private String text() {
        StringBuilder b = new StringBuilder(blanks(false));
        int kinds = 3, places = 2;
        boolean xFirst = below(2) == 0;
        for (int i = 0; i < 2; i++) {
            boolean forPlaces = (i == 0) == xFirst;
            if (below(4) != 0) {
                int n = 1 + below(4);
                b.append(forPlaces ? 'x' : 'k').append(blanks(false)).append(n).append(blanks(false)).append(';');
                if (forPlaces) {
                    places = n;
                } else {
                    kinds = n;
                }
            }
        }
        int people = below(6);
        int together = below(3);
        int top = new int[] {10, 40, 100}[below(3)];
        for (int p = 0; p < people; p++) {
            int nerve = below(2) == 0 ? 50 + below(50) : below(top);
            b.append('p').append(blanks(false)).append(nerve).append(blanks(true));
            b.append(together == 0 ? 0 : below(places));
            int much = 1 + below(10);
            for (int k = 0; k < kinds; k++) {
                b.append(blanks(true)).append(below(much));
            }
            b.append(blanks(false)).append(';').append(blanks(false));
        }
        return b.toString();
    }

    private String spoilt(String text) {
        String letters = "kxp;0123456789 kxp;  09a\n\u00ff";
        StringBuilder b = new StringBuilder(text);
        for (int n = 1 + below(2); n > 0; n--) {
            int at = below(b.length() + 1);
            char c = letters.charAt(below(letters.length()));
            switch (below(4)) {
                case 0 -> b.insert(at, c);
                case 1 -> b.setLength(at);
                case 2 -> b.insert(at, b.substring(0, below(b.length() + 1)));
                default -> {
                    if (at < b.length()) {
                        b.setCharAt(at, c);
                    }
                }
            }
        }
        return b.toString();
    }

    private void tell(Check all, boolean wild) {
        String text = text();
        if (wild && below(2) == 0) {
            text = spoilt(text);
        }
        for (int i = 0; i < text.length() && calls < CALLS; i++) {
            int letter = text.charAt(i);
            due(all, "type(" + letter + ")", x.type(letter), y.type(letter));
        }
        due(all, "town() of " + text, x.town(), y.town());
        if (below(3) != 0) {
            due(all, "clear()", x.clear(), y.clear());
        }
    }

    private void one(Check all) {
        int which = below(44);
        if (which < 22) {
            done(all, which);
        } else if (which < 30) {
            foretold(all, which);
        } else {
            rest(all, which);
        }
    }

    private void done(Check all, int which) {
        int p = p(), kind = kind(), place = place();
        if (which < 12) {
            due(all, "happens(" + kind + ", " + place + ")", x.happens(kind, place), y.happens(kind, place));
        } else if (which < 15) {
            due(all, "walks(" + p + ", " + place + ")", x.walks(p, place), y.walks(p, place));
        } else if (which < 17) {
            due(all, "tells(" + p + ", " + kind + ")", x.tells(p, kind), y.tells(p, kind));
        } else if (which < 18) {
            due(all, "abdicates()", x.abdicates(), y.abdicates());
        } else if (which < 21) {
            due(all, "undo()", x.undo(), y.undo());
        } else {
            for (int i = below(13); i > 0; i--) {
                due(all, "undo()", x.undo(), y.undo());
            }
        }
    }

    private void foretold(Check all, int which) {
        int p = p(), kind = kind(), place = place(), k = below(6) - 2, n = near(4), m = near(5), what = near(2);
        switch (which) {
            case 22, 23 -> due(all, "who(" + kind + ", " + place + ")", x.who(kind, place), y.who(kind, place));
            case 24, 25 -> {
                if (below(3) == 0) {
                    due(all, "plan(" + p + ", " + k + ")", x.plan(p, k), y.plan(p, k));
                }
            }
            case 26 -> {
                if (below(4) == 0 || n < 3) {
                    due(all, "duel(" + p + ", " + n + ", " + what + ")", x.duel(p, n, what), y.duel(p, n, what));
                }
            }
            case 27 -> due(all, "stale(" + kind + ", " + place + ")", x.stale(kind, place), y.stale(kind, place));
            default -> due(all, "odds(" + p + ", " + place + ", " + m + ", " + what + ")",
                    x.odds(p, place, m, what), y.odds(p, place, m, what));
        }
    }

    private void rest(Check all, int which) {
        int p = p(), kind = kind(), what = near(5), bit = near(2), as = near(6);
        switch (which) {
            case 30, 31 -> due(all, "notes(" + p + ", " + kind + ", " + bit + ")",
                    x.notes(p, kind, bit), y.notes(p, kind, bit));
            case 32 -> {
                if (below(4) == 0) {
                    due(all, "forget()", x.forget(), y.forget());
                }
            }
            case 33 -> due(all, "nerves(" + p + ", " + what + ")", x.nerves(p, what), y.nerves(p, what));
            case 34 -> due(all, "test(" + p + ")", x.test(p), y.test(p));
            case 35 -> due(all, "rate(" + as + ", " + p + ")", x.rate(as, p), y.rate(as, p));
            case 36 -> due(all, "keep(" + bit + ")", x.keep(bit), y.keep(bit));
            case 37 -> {
                if (below(3) == 0) {
                    due(all, "back(" + bit + ")", x.back(bit), y.back(bit));
                }
            }
            case 38 -> due(all, "count(" + what + ")", x.count(what), y.count(what));
            case 39 -> due(all, "trace()", x.trace(), y.trace());
            case 40 -> due(all, "person(" + p + ", " + what + ")", x.person(p, what), y.person(p, what));
            case 41 -> due(all, "seen(" + p + ", " + kind + ")", x.seen(p, kind), y.seen(p, kind));
            case 42 -> due(all, "surprise(" + p + ", " + kind + ")", x.surprise(p, kind), y.surprise(p, kind));
            default -> due(all, "now(" + what + ")", x.now(what), y.now(what));
        }
    }

    /** At a run's end all that is foretold of everybody. */
    private void all(Check all) {
        for (int p = 0; p < y.count(2); p++) {
            for (int k = -1; k < 3; k++) {
                due(all, "plan(" + p + ", " + k + ")", x.plan(p, k), y.plan(p, k));
            }
            for (int n = 0; n < 4; n++) {
                due(all, "duel(" + p + ", " + n + ", 0)", x.duel(p, n, 0), y.duel(p, n, 0));
                due(all, "duel(" + p + ", " + n + ", 1)", x.duel(p, n, 1), y.duel(p, n, 1));
            }
        }
    }
}
