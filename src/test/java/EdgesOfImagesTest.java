/** The edges of KINDS of PEOPLE, THE TRACE and IMAGES: the document's fourth part, promises 23 to 27. */
public final class EdgesOfImagesTest {
    private static final int BAD = -1, STATE = -2, NONE = -9, NO = -1000000;
    private static final int[] ASKED = {1, 11, 101, 1011, 10101, 100001};
    private static final Check CHECK = new Check();

    public static void main(String[] args) {
        kindsOfPeopleAreSix();
        rateOfNobody();
        rateOfNothing();
        rateOfTheGreatest();
        rateBelowZero();
        rateOfMinusOneIsNoRefusal();
        rateOfTheHighestNumber();
        rateByTerms();
        rateByPlace();
        rateIsAsOfNow();
        traceIsNothingAtFirst();
        traceOfEachBodyOnce();
        traceIsTheSameForAll();
        refusedRateLeavesTheTrace();
        onlyRateTraces();
        traceGoesOn();
        traceOfManyCalls();
        imagesAreTwo();
        noImageIsKept();
        badImageIsFirst();
        imagesOfNoPeople();
        keepCountsThoseWhoHadATerm();
        keepOfAllFive();
        keepChangesNothingElse();
        keepAgain();
        imagesAreApart();
        backToAllThatIsKept();
        backCountsByTheImage();
        backAgainAndAgain();
        backLeavesAllElse();
        nothingCanBeUndoneBehindBack();
        refusedBackLeavesWhatMayBeUndone();
        imageIsNotUndone();
        imagesAreGoneByATown();
        imagesStayByAFault();
        countNumbers();
        countOfAsMuchAsThereMayBe();
        CHECK.end();
    }

    private static void due(String call, long got, long want) {
        CHECK.due(call, got, want);
    }

    private static void rates(SurprisedMayor x, int p, int... want) {
        for (int kind = 0; kind < want.length; kind++) {
            due("23 rate(" + kind + ", " + p + ")", x.rate(kind, p), want[kind]);
        }
    }

    private static void kindsOfPeopleAreSix() {
        SurprisedMayor x = Check.town("p7 1 0 0 0;");
        due("23 kind -1", x.rate(-1, 0), NO);
        due("23 kind 0", x.rate(0, 0), 7);
        due("23 kind 5", x.rate(5, 0), 8);
        due("23 kind 6", x.rate(6, 0), NO);
    }

    private static void rateOfNobody() {
        for (int kind = 0; kind < 6; kind++) {
            due("23 no people", new SurprisedMayor().rate(kind, 0), NO);
            SurprisedMayor x = Check.town("p7 1 0 0 0;p7 1 0 0 0;");
            due("23 p = -1", x.rate(kind, -1), NO);
            due("23 p = 2", x.rate(kind, 2), NO);
        }
    }

    private static void rateOfNothing() {
        rates(Check.town("k1;p0 0 0;"), 0, 0, 0, 0, 0, 0, 0);
    }

    private static void rateOfTheGreatest() {
        rates(Check.town("k4;x4;p99 3 9 9 9 9;"), 0, 99, 99, 63, 198, 63, 102);
    }

    // NO: What is BAD, where a number may be below 0
    private static void rateBelowZero() {
        SurprisedMayor x = Check.town("k4;x4;p0 3 9 9 9 9;");
        rates(x, 0, 0, 0, -36, 0, -36, 3);
        for (int i = 0; i < 100; i++) {
            x.tells(0, 0);
        }
        rates(x, 0, 0, 0, -136, 0, -136, 3);
    }

    private static void rateOfMinusOneIsNoRefusal() {
        SurprisedMayor x = Check.town("k1;p0 0 1;");
        due("23 COOL is -1", x.rate(2, 0), -1);
        due("27 it was asked", x.trace(), 101);
    }

    private static void rateOfTheHighestNumber() {
        SurprisedMayor x = Check.town("k1;" + "p10 0 3;".repeat(5));
        for (int p = 0; p < 5; p++) {
            rates(x, p, 10, 10, 7, 20, 7 + p, 10);
        }
    }

    private static void rateByTerms() {
        SurprisedMayor x = Check.town("k1;p0 0 0;p0 1 0;");
        for (int i = 1; i <= 3; i++) {
            x.happens(0, 0);
            x.happens(0, 1);
            rates(x, 0, 0, i, -i, 2 * i, -i, 0);
            rates(x, 1, 0, i, -i, 2 * i, -i + 1, 1);
        }
    }

    private static void rateByPlace() {
        SurprisedMayor x = Check.town("k1;x4;p5 0 0;");
        for (int place = 1; place < 4; place++) {
            x.walks(0, place);
            rates(x, 0, 5, 5, 5, 10, 5, 5 + place);
        }
    }

    private static void rateIsAsOfNow() {
        SurprisedMayor x = Check.town("k1;p0 0 0;");
        x.keep(0);
        x.happens(0, 0);
        x.walks(0, 1);
        rates(x, 0, 0, 1, -1, 2, -1, 1);
        x.undo();
        rates(x, 0, 0, 1, -1, 2, -1, 0);
        x.back(0);
        rates(x, 0, 0, 0, 0, 0, 0, 0);
    }

    // THE TRACE, 0 at first
    private static void traceIsNothingAtFirst() {
        due("27 of a new object", new SurprisedMayor().trace(), 0);
        due("27 of a town just read", Check.town("p7 1 0 0 0;").trace(), 0);
    }

    // as often as rate() asks that body: each once
    private static void traceOfEachBodyOnce() {
        for (int kind = 0; kind < 6; kind++) {
            SurprisedMayor x = Check.town("p7 1 0 0 0;");
            for (int times = 1; times <= 12; times++) {
                x.rate(kind, 0);
                due("27 kind " + kind, x.trace(), (long) times * ASKED[kind]);
            }
        }
    }

    private static void traceIsTheSameForAll() {
        for (int p = 0; p < 5; p++) {
            SurprisedMayor x = Check.town("k1;p0 0 0;p99 1 9;p5 0 5;p6 1 6;p7 0 7;");
            x.happens(0, 0);
            for (int kind = 0; kind < 6; kind++) {
                x.rate(kind, p);
            }
            due("27 of " + p, x.trace(), 111226);
        }
    }

    private static void refusedRateLeavesTheTrace() {
        SurprisedMayor x = Check.town("p7 1 0 0 0;");
        for (int kind = -1; kind <= 6; kind++) {
            x.rate(kind, -1);
            x.rate(kind, 1);
        }
        x.rate(-1, 0);
        x.rate(6, 0);
        due("27 nothing asked", x.trace(), 0);
    }

    private static void onlyRateTraces() {
        SurprisedMayor x = Check.town("k2;p0 0 0 0;");
        x.happens(0, 0);
        x.tells(0, 1);
        x.walks(0, 1);
        x.abdicates();
        x.notes(0, 0, 1);
        x.nerves(0, 0);
        x.test(0);
        x.plan(0, -1);
        x.duel(0, 3, 0);
        x.odds(0, 1, 4, 0);
        x.stale(0, 0);
        x.person(0, 0);
        x.trace();
        due("27 nothing asked", x.trace(), 0);
    }

    // THE TRACE goes on, as behind undo(), back()
    private static void traceGoesOn() {
        SurprisedMayor x = Check.town("p7 1 0 0 0;");
        x.rate(0, 0);
        x.keep(0);
        x.tells(0, 0);
        x.rate(0, 0);
        x.undo();
        due("27 behind undo()", x.trace(), 2);
        x.back(0);
        due("27 behind back()", x.trace(), 2);
        x.type('?');
        x.town();
        due("27 behind a fault", x.trace(), 2);
        x.clear();
        Check.type(x, "p7 1 0 0 0;");
        x.town();
        due("27 behind town()", x.trace(), 2);
        x.rate(0, 0);
        due("27 and on", x.trace(), 3);
    }

    private static void traceOfManyCalls() {
        SurprisedMayor x = Check.town("k1;p0 0 0;");
        for (int i = 0; i < 490; i++) {
            x.rate(5, 0);
        }
        due("27 490 of TWIN", x.trace(), 49000490L);
    }

    // IMAGES 0, 1
    private static void imagesAreTwo() {
        SurprisedMayor x = Check.town("p0 1 0 0 0;");
        due("24 keep(-1)", x.keep(-1), BAD);
        due("24 keep(0)", x.keep(0), 0);
        due("24 keep(1)", x.keep(1), 0);
        due("24 keep(2)", x.keep(2), BAD);
        due("25 back(-1)", x.back(-1), BAD);
        due("25 back(0)", x.back(0), 0);
        due("25 back(1)", x.back(1), 0);
        due("25 back(2)", x.back(2), BAD);
    }

    // STATE: none was kept
    private static void noImageIsKept() {
        for (int image = 0; image < 2; image++) {
            SurprisedMayor x = Check.town("p0 1 0 0 0;");
            due("25 none", x.back(image), STATE);
            x.keep(1 - image);
            due("25 the other was", x.back(image), STATE);
            x.keep(2);
            x.keep(-1);
            due("25 a refused one is none", x.back(image), STATE);
            x.keep(image);
            due("25 now it was", x.back(image), 0);
        }
    }

    private static void badImageIsFirst() {
        SurprisedMayor x = new SurprisedMayor();
        due("25 where both fit, BAD is first", x.back(2), BAD);
        due("25 where both fit, BAD is first", x.back(-1), BAD);
    }

    private static void imagesOfNoPeople() {
        SurprisedMayor x = new SurprisedMayor();
        due("24 keep", x.keep(0), 0);
        x.happens(0, 0);
        due("25 back", x.back(0), 0);
        due("8 nothing can be undone", x.now(3), 0);
        due("8 no mayor", x.now(0), NONE);
    }

    // how many have had a TERM
    private static void keepCountsThoseWhoHadATerm() {
        SurprisedMayor x = Check.town("k1;p0 0 0;p0 1 0;p0 1 0;");
        due("24 none", x.keep(0), 0);
        x.happens(0, 1);
        due("24 one", x.keep(0), 1);
        x.abdicates();
        due("24 one, who abdicated", x.keep(0), 1);
        x.happens(0, 1);
        due("24 one, who had two", x.keep(0), 1);
        x.happens(0, 0);
        due("24 two", x.keep(0), 2);
        x.undo();
        due("24 one", x.keep(0), 1);
    }

    private static void keepOfAllFive() {
        SurprisedMayor x = Check.town("k1;x4;p0 0 0;p0 1 0;p0 2 0;p0 3 0;p0 3 0;");
        for (int place = 0; place < 4; place++) {
            x.happens(0, place);
            due("24 keep", x.keep(1), place + 1);
        }
        x.walks(3, 0);
        x.happens(0, 3);
        due("24 all", x.keep(1), 5);
        due("25 all", x.back(1), 5);
    }

    private static SurprisedMayor lived() {
        SurprisedMayor x = Check.town("k2;x2;p50 0 0 0;p0 1 3 4;");
        x.happens(0, 0);
        x.tells(1, 1);
        x.notes(0, 1, 1);
        x.rate(1, 1);
        x.type('?');
        return x;
    }

    private static void keepChangesNothingElse() {
        SurprisedMayor x = lived();
        SurprisedMayor y = lived();
        x.keep(0);
        CHECK.same("24 nothing changed", Look.at(x), Look.at(y));
        due("13 all may be undone", x.undo(), 1);
        due("13 all may be undone", x.undo(), 0);
    }

    private static void keepAgain() {
        SurprisedMayor x = Check.town("k1;p0 0 0;");
        x.keep(0);
        x.tells(0, 0);
        x.keep(0);
        x.tells(0, 0);
        x.back(0);
        due("6 as it was kept last", x.seen(0, 0), 1);
    }

    private static void imagesAreApart() {
        SurprisedMayor x = Check.town("k1;p0 0 0;");
        x.keep(0);
        x.tells(0, 0);
        x.keep(1);
        x.back(0);
        due("6 image 0", x.seen(0, 0), 0);
        x.back(1);
        due("6 image 1", x.seen(0, 0), 1);
        x.back(0);
        due("6 image 0", x.seen(0, 0), 0);
    }

    // keep NOW (where all are, what was SEEN, TERMS, the MAYOR)
    private static void backToAllThatIsKept() {
        SurprisedMayor x = Check.town("k2;x4;p0 0 0 0;p0 1 9 9;");
        x.happens(1, 0);
        x.keep(1);
        x.happens(0, 1);
        x.walks(0, 3);
        x.tells(1, 1);
        x.tells(0, 0);
        due("25 back", x.back(1), 1);
        due("8 the mayor", x.now(0), 0);
        due("5 terms of 0", x.person(0, 2), 1);
        due("5 terms of 1", x.person(1, 2), 0);
        due("5 place", x.person(0, 1), 0);
        due("6 seen", x.seen(0, 0), 0);
        due("6 seen", x.seen(0, 1), 1);
        due("6 seen", x.seen(1, 0), 9);
        due("6 seen", x.seen(1, 1), 9);
        due("5 seen together", x.person(0, 3), 1);
        due("5 seen together", x.person(1, 3), 18);
        due("7 surprise by that", x.surprise(0, 0), 67);
        x.abdicates();
        x.keep(0);
        x.happens(0, 1);
        x.back(0);
        due("8 no mayor, as it was kept", x.now(0), NONE);
    }

    private static void backCountsByTheImage() {
        SurprisedMayor x = Check.town("k1;p0 0 0;p0 1 0;");
        x.keep(0);
        x.happens(0, 0);
        x.keep(1);
        x.happens(0, 1);
        due("25 none had one then", x.back(0), 0);
        due("25 one had one then", x.back(1), 1);
    }

    private static void backAgainAndAgain() {
        SurprisedMayor x = Check.town("k1;p0 0 0;");
        x.keep(0);
        for (int i = 0; i < 5; i++) {
            x.happens(0, 0);
            x.walks(0, 1);
            due("25 back", x.back(0), 0);
            due("6 seen", x.seen(0, 0), 0);
            due("5 place", x.person(0, 1), 0);
        }
    }

    // nothing else
    private static void backLeavesAllElse() {
        SurprisedMayor x = lived();
        x.keep(0);
        x.notes(1, 0, 1);
        x.rate(0, 0);
        x.type('?');
        x.back(0);
        due("26 noted", x.count(3), 2);
        due("26 letters", x.count(4), 2);
        due("27 trace", x.trace(), 12);
        x.forget();
        x.clear();
        x.back(0);
        due("26 nothing noted", x.count(3), 0);
        due("26 no letters", x.count(4), 0);
    }

    // nothing can be UNDONE behind back()
    private static void nothingCanBeUndoneBehindBack() {
        SurprisedMayor x = Check.town("k1;p0 0 0;");
        x.keep(0);
        for (int i = 0; i < 12; i++) {
            x.tells(0, 0);
        }
        x.back(0);
        due("8 nothing", x.now(3), 0);
        due("13 undo", x.undo(), STATE);
        due("6 as it was kept", x.seen(0, 0), 0);
        x.tells(0, 0);
        due("8 what comes then", x.now(3), 1);
        due("13 undo", x.undo(), 0);
        due("13 undo", x.undo(), STATE);
    }

    private static void refusedBackLeavesWhatMayBeUndone() {
        SurprisedMayor x = Check.town("k1;p0 0 0;");
        x.tells(0, 0);
        x.back(0);
        x.back(2);
        x.back(-1);
        due("8 one", x.now(3), 1);
        due("13 undo", x.undo(), 0);
    }

    private static void imageIsNotUndone() {
        SurprisedMayor x = Check.town("k1;p0 0 0;");
        x.tells(0, 0);
        x.keep(0);
        x.undo();
        due("25 it is kept", x.back(0), 0);
        due("6 as it was kept", x.seen(0, 0), 1);
    }

    // IMAGES are gone
    private static void imagesAreGoneByATown() {
        for (String text : new String[] {"", "k1;", "k1;p0 0 0;"}) {
            SurprisedMayor x = Check.town("k1;p0 0 0;");
            x.keep(0);
            x.keep(1);
            Check.type(x, text);
            x.town();
            due("25 image 0", x.back(0), STATE);
            due("25 image 1", x.back(1), STATE);
        }
    }

    private static void imagesStayByAFault() {
        SurprisedMayor x = Check.town("k1;p0 0 0;");
        x.keep(0);
        x.keep(1);
        x.type('?');
        x.town();
        due("25 image 0", x.back(0), 0);
        due("25 image 1", x.back(1), 0);
    }

    private static void countNumbers() {
        SurprisedMayor x = new SurprisedMayor();
        due("26 count(-1)", x.count(-1), BAD);
        due("26 count(0)", x.count(0), 3);
        due("26 count(4)", x.count(4), 0);
        due("26 count(5)", x.count(5), BAD);
    }

    private static void countOfAsMuchAsThereMayBe() {
        SurprisedMayor x = Check.town("k4;x4;" + "p99 3 9 9 9 9;".repeat(5));
        for (int i = 0; i < 7; i++) {
            x.notes(4, 3, 1);
        }
        Check.type(x, " ".repeat(151));
        due("26 kinds", x.count(0), 4);
        due("26 places", x.count(1), 4);
        due("26 people", x.count(2), 5);
        due("26 noted", x.count(3), 6);
        due("26 letters", x.count(4), 150);
    }
}
