/** The edges of what is foretold and NOTED: the document's third part, promises 14 to 22. */
public final class EdgesOfForesightTest {
    private static final int BAD = -1, FULL = -3, NONE = -9;
    // one kind at one place: whoever has nerve 0 always jumps there, whoever has more never does
    private static final String ALWAYS = "k1;x1;p0 0 0;";
    private static final String NEVER = "k1;x1;p1 0 0;";
    // by kind 3 at place 3 he is surprised by 97, by the others by 68
    private static final String LAST = "k4;x4;p90 3 9 9 9 0;";
    private static final Check CHECK = new Check();

    public static void main(String[] args) {
        nothingIsChanged();
        whoIsNobody();
        whoIsTheMayorThatStays();
        whoIsTheNextMayor();
        planOfNone();
        planOfOne();
        planOfTwo();
        planOfThree();
        planOfFourIsNone();
        planThatCantBe();
        planIsTheFirstOfSeveralRows();
        planOfTheHighestEvent();
        planNumbers();
        planIsAsOfNow();
        duelOfNone();
        duelOfOne();
        duelOfTwo();
        duelOfThree();
        duelThatIsAlwaysWon();
        duelThatIsNeverWon();
        duelOfWhoIsMayor();
        duelWhereNoneMayPass();
        duelBeginsByTheLowestEvent();
        duelOfTheHighestEvent();
        duelNumbers();
        staleAtOnce();
        staleBehindOne();
        staleTillNobodyJumps();
        staleBehind99();
        stale100AreTooMany();
        staleNever();
        oddsOfNone();
        oddsOfOneToFour();
        oddsOfOneKind();
        oddsOfFourKinds();
        oddsAreInLeastTerms();
        oddsOfNever();
        oddsOfAlways();
        oddsOfAPlaceWhereNobodyIs();
        oddsNumbers();
        mostOfNobody();
        mostOfAll();
        nothingNoted();
        sixAreNoted();
        notedOfAllTogether();
        notedAgainstEachOther();
        nervesOfAll();
        nervesOfNone();
        nervesOfOne();
        nervesByTheLeastSurprise();
        nervesByTheGreatestSurprise();
        nervesOfHimAlone();
        nervesBySurpriseAsItIs();
        nervesAreNotByHisOwn();
        tryOfNoneAndOfOne();
        tryOfTwo();
        tryTheLowestOfSeveral();
        tryTheSmallestGreaterPart();
        tryWhereNoneParts();
        CHECK.end();
    }

    private static void due(String call, long got, long want) {
        CHECK.due(call, got, want);
    }

    private static void tell(SurprisedMayor x, int p, int kind, int times) {
        for (int i = 0; i < times; i++) {
            x.tells(p, kind);
        }
    }

    private static void plan(SurprisedMayor x, int p, int many, int... events) {
        due("15 plan(" + p + ", -1)", x.plan(p, -1), many);
        for (int k = 0; k < 3; k++) {
            due("15 plan(" + p + ", " + k + ")", x.plan(p, k), k < events.length ? events[k] : NONE);
        }
    }

    private static void duel(SurprisedMayor x, int p, int n, int wins, int event) {
        due("16 duel(" + p + ", " + n + ", 0)", x.duel(p, n, 0), wins);
        due("16 duel(" + p + ", " + n + ", 1)", x.duel(p, n, 1), event);
    }

    private static void odds(SurprisedMayor x, int p, int place, int n, int upper, int lower) {
        due("18 odds(" + p + ", " + place + ", " + n + ", 0)", x.odds(p, place, n, 0), upper);
        due("18 odds(" + p + ", " + place + ", " + n + ", 1)", x.odds(p, place, n, 1), lower);
    }

    private static void nerves(SurprisedMayor x, int p, int many, int least, int greatest) {
        due("21 nerves(" + p + ", 0)", x.nerves(p, 0), many);
        due("21 nerves(" + p + ", 1)", x.nerves(p, 1), least);
        due("21 nerves(" + p + ", 2)", x.nerves(p, 2), greatest);
    }

    private static SurprisedMayor lived() {
        SurprisedMayor x = Check.town("k2;x2;p50 0 0 0;p60 0 3 4;p0 1 1 1;");
        x.happens(0, 0);
        x.keep(0);
        x.happens(1, 1);
        x.keep(1);
        x.walks(2, 0);
        x.notes(1, 1, 0);
        x.notes(2, 0, 1);
        x.type('?');
        return x;
    }

    // (As things are NOW; nothing is changed.)
    private static void nothingIsChanged() {
        String want = Look.through(lived());
        for (int what = 0; what < 7; what++) {
            SurprisedMayor x = lived();
            for (int p = 0; p < 3; p++) {
                switch (what) {
                    case 0 -> x.who(p % 2, 0);
                    case 1 -> x.plan(p, -1 + p);
                    case 2 -> x.duel(p, 3, p % 2);
                    case 3 -> x.stale(p % 2, 0);
                    case 4 -> x.odds(p, 0, 4, p % 2);
                    case 5 -> x.nerves(p, p);
                    default -> x.test(p);
                }
            }
            CHECK.same("14 .. 22 nothing is changed by asking " + what, Look.through(x), want);
        }
    }

    // WHO: NONE (nobody)
    private static void whoIsNobody() {
        SurprisedMayor x = Check.town("k2;x2;p51 0 0 0;");
        due("14 nobody jumps", x.who(0, 0), NONE);
        due("14 nobody is there", x.who(1, 1), NONE);
        due("14 no people", new SurprisedMayor().who(2, 1), NONE);
    }

    private static void whoIsTheMayorThatStays() {
        SurprisedMayor x = Check.town("k2;x3;p51 0 0 0;p50 1 0 0;");
        x.happens(0, 1);
        due("14 nobody jumps", x.who(0, 0), 1);
        due("14 nobody is there", x.who(0, 2), 1);
        x.abdicates();
        due("14 no mayor any more", x.who(0, 0), NONE);
    }

    private static void whoIsTheNextMayor() {
        SurprisedMayor x = Check.town("k4;x4;p75 3 0 0 0 0;p75 3 0 0 0 0;p76 0 0 0 0 0;");
        due("14 the lowest of two", x.who(0, 3), 0);
        due("14 by the highest kind", x.who(3, 3), 0);
        due("14 nerve one too great", x.who(3, 0), NONE);
        due("14 one kind too many", x.who(4, 0), BAD);
        due("14 one place too many", x.who(0, 4), BAD);
    }

    // PLAN: the fewest EVENTS (0 .. 3)
    private static void planOfNone() {
        SurprisedMayor x = Check.town("k1;x1;p0 0 0;p1 0 0;");
        x.happens(0, 0);
        plan(x, 0, 0);
    }

    private static void planOfOne() {
        plan(Check.town(ALWAYS), 0, 1, 0);
        plan(Check.town("k1;x4;p0 3 0;"), 0, 1, 3);
        plan(Check.town("k2;x3;p60 2 1 0;"), 0, 1, 12);
    }

    private static void planOfTwo() {
        // 50 at first; behind one event 67 by the other kind
        plan(Check.town("k2;x1;p51 0 0 0;"), 0, 2, 0, 10);
        plan(Check.town("k2;x2;p67 1 0 0;"), 0, 2, 1, 11);
    }

    private static void planOfThree() {
        // 50, behind one event 55, behind two 59, behind three 62
        plan(Check.town("k2;x1;p56 0 4 4;"), 0, 3, 0, 0, 10);
        plan(Check.town("k2;x4;p59 3 4 4;"), 0, 3, 3, 3, 13);
    }

    // NONE (there are none such ..
    private static void planOfFourIsNone() {
        SurprisedMayor x = Check.town("k2;x1;p60 0 4 4;");
        plan(x, 0, NONE);
        x.happens(0, 0);
        plan(x, 0, 3, 0, 0, 10);
    }

    private static void planThatCantBe() {
        plan(Check.town(NEVER), 0, NONE);
        // these two are always surprised alike, and the lowest is mayor
        plan(Check.town("k2;x1;p0 0 0 0;p0 0 0 0;"), 1, NONE);
    }

    // of several rows the first
    private static void planIsTheFirstOfSeveralRows() {
        plan(Check.town("k4;x1;p0 0 0 0 0 0;"), 0, 1, 0);
        plan(Check.town("k3;x1;p68 0 0 0 0;"), 0, 2, 0, 10);
        plan(Check.town("k4;x4;p76 3 0 0 0 0;"), 0, 2, 3, 13);
        // a row of one by the highest kind is ahead of a row of two by the lowest
        plan(Check.town("k2;x1;p60 0 1 0;"), 0, 1, 10);
    }

    private static void planOfTheHighestEvent() {
        plan(Check.town(LAST), 0, 1, 33);
    }

    // BAD (below -1, above 2)
    private static void planNumbers() {
        SurprisedMayor x = Check.town(ALWAYS);
        due("15 k = -2", x.plan(0, -2), BAD);
        due("15 k = -1", x.plan(0, -1), 1);
        due("15 k = 0", x.plan(0, 0), 0);
        due("15 k = 2", x.plan(0, 2), NONE);
        due("15 k = 3", x.plan(0, 3), BAD);
        due("15 p = -1", x.plan(-1, -1), BAD);
        due("15 p = 1", x.plan(1, -1), BAD);
    }

    private static void planIsAsOfNow() {
        SurprisedMayor x = Check.town("k2;x2;p51 0 0 0;");
        plan(x, 0, 2, 0, 10);
        x.walks(0, 1);
        plan(x, 0, 2, 1, 11);
        x.happens(1, 1);
        plan(x, 0, 1, 1);
        x.happens(0, 1);
        plan(x, 0, 0);
        x.abdicates();
        // seen 1 and 1: 50 by either
        plan(x, 0, 2, 1, 11);
    }

    // NONE (.. n is 0)
    private static void duelOfNone() {
        SurprisedMayor x = Check.town(ALWAYS);
        duel(x, 0, 0, 0, NONE);
        x.happens(0, 0);
        duel(x, 0, 0, 1, NONE);
        x.abdicates();
        duel(x, 0, 0, 0, NONE);
    }

    private static void duelOfOne() {
        SurprisedMayor x = Check.town("k2;x2;p50 1 0 0;p51 0 0 0;");
        duel(x, 0, 1, 1, 1);
        duel(x, 1, 1, 0, NONE);
        x.happens(0, 1);
        // he is mayor, and stays so by what nobody jumps at
        duel(x, 0, 1, 1, 0);
    }

    // by turns of two: the other one has the last of two
    private static void duelOfTwo() {
        SurprisedMayor x = Check.town("k1;x2;p0 1 0;");
        duel(x, 0, 2, 1, 1);
        SurprisedMayor y = Check.town("k1;x2;p0 0 0;p0 1 0;");
        duel(y, 0, 2, 0, NONE);
        duel(y, 1, 2, 0, NONE);
    }

    // the first one has the last of three
    private static void duelOfThree() {
        SurprisedMayor x = Check.town("k1;x2;p0 1 0;");
        duel(x, 0, 3, 1, 0);
        SurprisedMayor y = Check.town("k1;x2;p0 0 0;p0 1 0;");
        duel(y, 0, 3, 1, 0);
        duel(y, 1, 3, 1, 0);
        // 50 by either kind at first: he needs an event at 1 ahead of the last one
        SurprisedMayor z = Check.town("k2;x2;p59 1 0 0;");
        duel(z, 0, 1, 0, NONE);
        duel(z, 0, 2, 0, NONE);
        duel(z, 0, 3, 1, 1);
    }

    private static void duelThatIsAlwaysWon() {
        for (int n = 1; n <= 3; n++) {
            duel(Check.town(ALWAYS), 0, n, 1, 0);
        }
    }

    // NONE (he does not ..
    private static void duelThatIsNeverWon() {
        for (int n = 0; n <= 3; n++) {
            duel(Check.town(NEVER), 0, n, 0, NONE);
        }
    }

    private static void duelOfWhoIsMayor() {
        SurprisedMayor x = Check.town("k1;x2;p0 1 0;p0 0 0;");
        x.happens(0, 0);
        x.walks(0, 0);
        // an event at 0 makes 0 mayor, and no event makes 1 mayor again
        duel(x, 1, 0, 1, NONE);
        duel(x, 1, 1, 1, 1);
        duel(x, 1, 2, 0, NONE);
        duel(x, 1, 3, 0, NONE);
        duel(x, 0, 0, 0, NONE);
        duel(x, 0, 1, 1, 0);
        duel(x, 0, 2, 1, 0);
        duel(x, 0, 3, 1, 0);
    }

    // each chooses any KIND, PLACE: of those that there are, and he must choose one
    private static void duelWhereNoneMayPass() {
        SurprisedMayor x = Check.town("k2;x1;p35 0 0 0;p13 0 0 4;");
        x.happens(1, 0);
        // 0 is mayor, and 1 by either kind: by kind 0 he jumps by 86 (0 by 67), by kind 1 by 15 (0 by 34 does not)
        duel(x, 0, 0, 1, NONE);
        duel(x, 0, 1, 0, NONE);
        SurprisedMayor y = Check.town("k2;x1;p49 0 1 2;p0 0 0 1;");
        // behind kind 0 either kind makes 0 mayor, so that the other one can't help it
        duel(y, 0, 1, 0, NONE);
        duel(y, 0, 2, 1, 0);
    }

    // the lowest
    private static void duelBeginsByTheLowestEvent() {
        duel(Check.town("k4;x4;p0 2 0 0 0 0;"), 0, 1, 1, 2);
        // by kind 0: 34; by kind 1: 67
        duel(Check.town("k2;x4;p60 0 1 0;"), 0, 1, 1, 10);
        duel(Check.town("k2;x4;p60 3 1 0;"), 0, 2, 1, 13);
        // the last of three can be kind 1 at place 0, so that any first one will do
        duel(Check.town("k2;x4;p60 0 1 0;"), 0, 3, 1, 0);
    }

    private static void duelOfTheHighestEvent() {
        SurprisedMayor x = Check.town(LAST);
        duel(x, 0, 1, 1, 33);
        duel(x, 0, 2, 1, 33);
        duel(x, 0, 3, 1, 0);
    }

    // n (0 .. 3)
    private static void duelNumbers() {
        SurprisedMayor x = Check.town(ALWAYS);
        due("16 n = -1", x.duel(0, -1, 0), BAD);
        due("16 n = 0", x.duel(0, 0, 0), 0);
        due("16 n = 3", x.duel(0, 3, 0), 1);
        due("16 n = 4", x.duel(0, 4, 0), BAD);
        due("16 what = -1", x.duel(0, 1, -1), BAD);
        due("16 what = 2", x.duel(0, 1, 2), BAD);
        due("16 p = -1", x.duel(-1, 1, 0), BAD);
        due("16 p = 1", x.duel(1, 1, 0), BAD);
    }

    // STALE: how often (0 ..
    private static void staleAtOnce() {
        due("17 nobody jumps", Check.town(NEVER).stale(0, 0), 0);
        due("17 nobody is there", Check.town("k1;x2;p0 0 0;").stale(0, 1), 0);
        due("17 no people", new SurprisedMayor().stale(2, 1), 0);
        SurprisedMayor x = Check.town("k2;x1;p50 0 0 0;");
        x.happens(0, 0);
        due("17 he is mayor, and does not jump", x.stale(0, 0), 0);
    }

    private static void staleBehindOne() {
        // 50, then 34
        due("17 nerve 50", Check.town("k2;x1;p50 0 0 0;").stale(0, 0), 1);
        due("17 nerve 35", Check.town("k2;x1;p35 0 0 0;").stale(0, 0), 1);
        due("17 nerve 34", Check.town("k2;x1;p34 0 0 0;").stale(1, 0), 2);
    }

    // somebody JUMPS each time, till nobody does
    private static void staleTillNobodyJumps() {
        SurprisedMayor x = Check.town("k2;x2;p50 0 0 0;p34 0 0 0;p10 1 0 0;p51 0 0 0;");
        due("17 the one who jumps longest", x.stale(0, 0), 2);
        // 10 by 1000 of 11 parts, then 9 by 1100 of 12
        due("17 nobody from elsewhere", x.stale(0, 1), 10);
        x.happens(0, 0);
        due("17 from now on", x.stale(0, 0), 1);
        x.walks(2, 0);
        due("17 where they are now", x.stale(0, 0), 10);
        due("17 where nobody is any more", x.stale(0, 1), 0);
    }

    // .. 99)
    private static void staleBehind99() {
        // 100 less 9900 by 118 is 17, 100 less 10000 by 119 is 16
        SurprisedMayor x = Check.town("k4;p17 0 0 6 5 5;");
        due("17 99", x.stale(0, 0), 99);
        x.happens(0, 0);
        due("17 98 are left", x.stale(0, 0), 98);
    }

    // NONE (99 are not enough)
    private static void stale100AreTooMany() {
        // 100 less 10000 by 115 is 14, 100 less 10100 by 116 is 13
        SurprisedMayor x = Check.town("k4;p14 0 0 4 4 4;");
        due("17 100", x.stale(0, 0), NONE);
        x.happens(0, 0);
        due("17 99 are left", x.stale(0, 0), 99);
        x.happens(0, 0);
        due("17 98 are left", x.stale(0, 0), 98);
    }

    private static void staleNever() {
        due("17 nerve 0", Check.town(ALWAYS).stale(0, 0), NONE);
        due("17 nerve 0 of four kinds", Check.town("k4;p0 0 0 0 0 0;").stale(3, 0), NONE);
    }

    // ODDS: n (0 ..
    private static void oddsOfNone() {
        SurprisedMayor x = Check.town("k4;x1;p0 0 0 0 0 0;p99 0 0 0 0 0;");
        odds(x, 0, 0, 0, 0, 1);
        x.happens(0, 0);
        odds(x, 0, 0, 0, 1, 1);
        odds(x, 1, 0, 0, 0, 1);
    }

    // .. 4)
    private static void oddsOfOneToFour() {
        // he does not jump by kind 0, unless another kind was first: all rows but those of kind 0 alone
        SurprisedMayor x = Check.town("k3;x1;p60 0 9 0 0;");
        odds(x, 0, 0, 1, 2, 3);
        odds(x, 0, 0, 2, 8, 9);
        odds(x, 0, 0, 3, 26, 27);
        odds(x, 0, 0, 4, 80, 81);
    }

    private static void oddsOfOneKind() {
        for (int n = 1; n <= 4; n++) {
            odds(Check.town(ALWAYS), 0, 0, n, 1, 1);
            odds(Check.town(NEVER), 0, 0, n, 0, 1);
        }
    }

    private static void oddsOfFourKinds() {
        SurprisedMayor x = Check.town("k4;x4;p60 3 9 0 0 0;");
        odds(x, 0, 3, 4, 255, 256);
        odds(x, 0, 3, 3, 63, 64);
    }

    // in least terms
    private static void oddsAreInLeastTerms() {
        odds(Check.town("k4;x1;p60 0 9 9 0 0;"), 0, 0, 1, 1, 2);
        odds(Check.town("k4;x1;p0 0 0 0 0 0;"), 0, 0, 4, 1, 1);
        odds(Check.town("k4;x1;p99 0 0 0 0 0;"), 0, 0, 4, 0, 1);
    }

    private static void oddsOfNever() {
        SurprisedMayor x = Check.town("k2;x2;p0 0 0 0;p0 1 0 0;");
        for (int n = 0; n <= 4; n++) {
            odds(x, 0, 1, n, 0, 1);
        }
    }

    private static void oddsOfAlways() {
        SurprisedMayor x = Check.town("k2;x2;p0 0 0 0;p0 1 0 0;");
        for (int n = 1; n <= 4; n++) {
            odds(x, 0, 0, n, 1, 1);
        }
    }

    private static void oddsOfAPlaceWhereNobodyIs() {
        SurprisedMayor x = Check.town("k2;x3;p0 0 0 0;p0 1 0 0;");
        x.happens(0, 1);
        for (int n = 0; n <= 4; n++) {
            odds(x, 1, 2, n, 1, 1);
            odds(x, 0, 2, n, 0, 1);
        }
    }

    private static void oddsNumbers() {
        SurprisedMayor x = Check.town(ALWAYS);
        due("18 n = -1", x.odds(0, 0, -1, 0), BAD);
        due("18 n = 0", x.odds(0, 0, 0, 0), 0);
        due("18 n = 4", x.odds(0, 0, 4, 0), 1);
        due("18 n = 5", x.odds(0, 0, 5, 0), BAD);
        due("18 what = -1", x.odds(0, 0, 1, -1), BAD);
        due("18 what = 2", x.odds(0, 0, 1, 2), BAD);
        due("18 place = -1", x.odds(0, -1, 1, 0), BAD);
        due("18 place = 1", x.odds(0, 1, 1, 0), BAD);
        due("18 p = -1", x.odds(-1, 0, 1, 0), BAD);
        due("18 p = 1", x.odds(1, 0, 1, 0), BAD);
    }

    // MOST (-1: there are no PEOPLE)
    private static void mostOfNobody() {
        due("8 most of nobody", new SurprisedMayor().now(2), -1);
        due("8 most of nobody, four kinds", Check.town("k4;x4;").now(2), -1);
        due("8 most of one kind", Check.town("k1;p99 0 9;").now(2), 0);
    }

    // the greatest SURPRISE of any one by any KIND
    private static void mostOfAll() {
        due("8 by the first of the first", Check.town("k2;p0 0 0 5;p0 1 0 0;").now(2), 86);
        due("8 by the last of the last", Check.town("k4;p0 0 0 0 0 0;p0 1 9 9 9 0;").now(2), 97);
        due("8 though he would not jump", Check.town("k2;p99 0 0 0;").now(2), 50);
    }

    private static void nothingNoted() {
        SurprisedMayor x = Check.town(ALWAYS);
        due("26 noted", x.count(3), 0);
        due("20 forget", x.forget(), 0);
        nerves(x, 0, 100, 0, 99);
    }

    // NOTED (6 at most)
    private static void sixAreNoted() {
        SurprisedMayor x = Check.town("k4;x1;p0 0 0 0 0 0;");
        for (int i = 1; i <= 6; i++) {
            due("19 note " + i, x.notes(0, 3, 1), i);
            due("26 noted", x.count(3), i);
        }
        due("19 one more", x.notes(0, 3, 1), FULL);
        due("19 another one, too", x.notes(0, 0, 0), FULL);
        nerves(x, 0, 76, 0, 75);
        due("19 where both fit, BAD is first", x.notes(1, 3, 1), BAD);
        due("19 where both fit, BAD is first", x.notes(0, 4, 1), BAD);
        due("19 where both fit, BAD is first", x.notes(0, 3, 2), BAD);
        due("26 noted", x.count(3), 6);
        due("20 forget", x.forget(), 6);
        due("20 forget", x.forget(), 0);
        due("19 room again", x.notes(0, 3, 1), 1);
    }

    private static void notedOfAllTogether() {
        SurprisedMayor x = Check.town("k1;x1;" + "p0 0 0;".repeat(5));
        for (int i = 0; i < 6; i++) {
            due("19 of " + i % 5, x.notes(i % 5, 0, 1), i + 1);
        }
        for (int p = 0; p < 5; p++) {
            due("19 full for " + p, x.notes(p, 0, 1), FULL);
            nerves(x, p, 1, 0, 0);
        }
    }

    private static void notedAgainstEachOther() {
        SurprisedMayor x = Check.town("k2;x1;p0 0 0 0;");
        due("19 jumped", x.notes(0, 0, 1), 1);
        due("19 and did not", x.notes(0, 0, 0), 2);
        nerves(x, 0, 0, NONE, NONE);
        due("22 none can be", x.test(0), NONE);
    }

    // how many of 0 .. 99 he can have
    private static void nervesOfAll() {
        SurprisedMayor x = Check.town("k2;x1;p0 0 0 0;p99 0 0 0;");
        nerves(x, 0, 100, 0, 99);
        nerves(x, 1, 100, 0, 99);
        due("21 what = -1", x.nerves(0, -1), BAD);
        due("21 what = 3", x.nerves(0, 3), BAD);
    }

    // (0: none) .. (NONE: none)
    private static void nervesOfNone() {
        // 75 by kind 0, 25 by kind 1: who jumped by 25 would jump by 75
        SurprisedMayor x = Check.town("k2;x1;p0 0 0 2;");
        x.notes(0, 1, 1);
        nerves(x, 0, 26, 0, 25);
        x.notes(0, 0, 0);
        nerves(x, 0, 0, NONE, NONE);
    }

    private static void nervesOfOne() {
        SurprisedMayor x = Check.town("k1;x1;p0 0 0;");
        x.notes(0, 0, 1);
        nerves(x, 0, 1, 0, 0);
        SurprisedMayor y = Check.town("k2;x1;p0 0 0 9;");
        // by 50 of all it is 98
        tell(y, 0, 1, 39);
        y.notes(0, 0, 0);
        nerves(y, 0, 1, 99, 99);
    }

    private static void nervesByTheLeastSurprise() {
        SurprisedMayor x = Check.town("k1;x1;p0 0 0;");
        x.notes(0, 0, 0);
        nerves(x, 0, 99, 1, 99);
        x.notes(0, 0, 1);
        nerves(x, 0, 0, NONE, NONE);
    }

    private static void nervesByTheGreatestSurprise() {
        SurprisedMayor x = Check.town("k2;x1;p0 0 0 9;");
        tell(x, 0, 1, 40);
        for (int surprise = 99; surprise <= 100; surprise++) {
            due("7 surprise", x.surprise(0, 0), surprise);
            x.notes(0, 0, 1);
            nerves(x, 0, 100, 0, 99);
            x.forget();
            x.notes(0, 0, 0);
            nerves(x, 0, 0, NONE, NONE);
            x.forget();
            tell(x, 0, 1, 50);
        }
    }

    // by all that was NOTED of him
    private static void nervesOfHimAlone() {
        SurprisedMayor x = Check.town("k2;x1;p0 0 0 0;p0 0 0 2;");
        x.notes(1, 0, 1);
        x.notes(1, 1, 0);
        nerves(x, 0, 100, 0, 99);
        nerves(x, 1, 50, 26, 75);
        x.notes(0, 0, 1);
        nerves(x, 0, 51, 0, 50);
        nerves(x, 1, 50, 26, 75);
    }

    // by SURPRISE as it is when NERVES, TRY are asked (not when it was NOTED)
    private static void nervesBySurpriseAsItIs() {
        SurprisedMayor x = Check.town("k2;x1;p0 0 0 0;");
        x.keep(0);
        x.notes(0, 0, 1);
        nerves(x, 0, 51, 0, 50);
        due("22 none parts 0 .. 50", x.test(0), 0);
        x.happens(0, 0);
        nerves(x, 0, 35, 0, 34);
        x.tells(0, 1);
        nerves(x, 0, 51, 0, 50);
        x.tells(0, 1);
        // 60 by kind 0, 40 by kind 1
        nerves(x, 0, 61, 0, 60);
        due("22 kind 1 parts 0 .. 60", x.test(0), 1);
        x.undo();
        nerves(x, 0, 51, 0, 50);
        x.back(0);
        nerves(x, 0, 51, 0, 50);
    }

    private static void nervesAreNotByHisOwn() {
        SurprisedMayor x = Check.town("k2;x1;p99 0 0 0;");
        x.notes(0, 0, 1);
        nerves(x, 0, 51, 0, 50);
        due("5 his own stays", x.person(0, 0), 99);
    }

    /** Surprises 76, 75, 74, 75: each is 100 less one more than what was seen, which is 96 together. */
    private static SurprisedMayor closeKinds() {
        SurprisedMayor x = Check.town("k4;x1;p0 0 9 9 9 9;");
        tell(x, 0, 0, 14);
        tell(x, 0, 1, 15);
        tell(x, 0, 2, 16);
        tell(x, 0, 3, 15);
        return x;
    }

    // TRY: NONE (one NERVE can be at most)
    private static void tryOfNoneAndOfOne() {
        SurprisedMayor x = closeKinds();
        x.notes(0, 2, 0);
        x.notes(0, 1, 1);
        nerves(x, 0, 1, 75, 75);
        due("22 one can be", x.test(0), NONE);
        x.notes(0, 2, 1);
        nerves(x, 0, 0, NONE, NONE);
        due("22 none can be", x.test(0), NONE);
    }

    private static void tryOfTwo() {
        SurprisedMayor x = closeKinds();
        x.notes(0, 2, 0);
        x.notes(0, 0, 1);
        nerves(x, 0, 2, 75, 76);
        due("22 kinds 1 and 3 part them", x.test(0), 1);
    }

    // of several the lowest
    private static void tryTheLowestOfSeveral() {
        due("22 all alike", Check.town("k4;x1;p0 0 0 0 0 0;").test(0), 0);
        due("22 the last three alike", Check.town("k4;x1;p0 0 0 1 1 1;").test(0), 1);
        due("22 the last alone", Check.town("k4;x1;p0 0 0 0 0 1;").test(0), 3);
        due("22 the sole one", Check.town("k1;x1;p0 0 0;").test(0), 0);
    }

    // the KIND by which, JUMPED or not, the greater part of these is smallest
    private static void tryTheSmallestGreaterPart() {
        // 90, 80, 30: parts of 91 and 9, 81 and 19, 31 and 69
        SurprisedMayor x = Check.town("k3;x1;p0 0 0 1 6;");
        due("22 of 0 .. 99", x.test(0), 2);
        x.notes(0, 2, 0);
        // 31 .. 99: 60 and 9, 50 and 19, none and 69
        due("22 of 31 .. 99", x.test(0), 1);
        x.notes(0, 1, 0);
        // 81 .. 99: 10 and 9, none and 19, none and 19
        due("22 of 81 .. 99", x.test(0), 0);
    }

    private static void tryWhereNoneParts() {
        SurprisedMayor x = Check.town("k2;x1;p0 0 0 0;");
        x.notes(0, 1, 0);
        nerves(x, 0, 49, 51, 99);
        due("22 by neither one jumps", x.test(0), 0);
        SurprisedMayor y = Check.town("k2;x1;p0 0 0 2;");
        y.notes(0, 0, 1);
        y.notes(0, 1, 0);
        nerves(y, 0, 50, 26, 75);
        due("22 by kind 0 he jumps, by kind 1 not", y.test(0), 0);
        SurprisedMayor z = Check.town("k2;x1;p0 0 2 0;");
        z.notes(0, 1, 0);
        nerves(z, 0, 24, 76, 99);
        due("22 by 25 as little as by 75", z.test(0), 0);
    }
}
