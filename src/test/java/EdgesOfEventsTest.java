/** The edges of SURPRISE and of what is done: the document's second part, promises 5 to 13. */
public final class EdgesOfEventsTest {
    private static final int BAD = -1, STATE = -2, NONE = -9;
    private static final Check CHECK = new Check();

    public static void main(String[] args) {
        surpriseIsCut();
        leastSurprise();
        greatestSurprise();
        jumpsIfSurpriseIsNerve();
        jumpsByTheLeastSurprise();
        jumpsByTheGreatestSurprise();
        noMayorAtFirst();
        greatestOfThoseWhoJump();
        lowestOfSeveral();
        lowestOfSeveralByWhatIsCut();
        onlyThoseWhoAreThere();
        nobodyJumps();
        nobodyIsThere();
        noPeople();
        noTermMoreForTheMayor();
        termMoreForWhoIsNotMayorAnyMore();
        termMoreBehindAbdication();
        mayorMayBeElsewhere();
        surpriseIsOfAheadOfTheEvent();
        allWhoAreThereHaveSeenIt();
        bitsOfWhoJumps();
        seenGoesBeyondNine();
        seenIsToldUpTo999();
        seenHappensUpTo999();
        walksToAnotherPlace();
        walksNotWhereHeIs();
        toldWithoutSurprise();
        abdicatesOnce();
        noneToBeUndone();
        eachThingDoneIsOneToBeUndone();
        eventThatNobodySeesIsUndone();
        refusedOnesAreNotUndone();
        otherCallsAreNotUndone();
        undoIsNotUndone();
        tenAreKnown();
        elevenAndTheOldestIsLost();
        lostOnesStayLost();
        tenOfAllSorts();
        undoneTermsAndMayor();
        undoLeavesAllElse();
        answersOfNow();
        lastCallsAreAnswered();
        CHECK.end();
    }

    private static void due(String call, long got, long want) {
        CHECK.due(call, got, want);
    }

    private static void tell(SurprisedMayor x, int p, int kind, int times) {
        for (int i = 0; i < times; i++) {
            x.tells(p, kind);
        }
    }

    // 100 less (100 times one more than how often that was SEEN, by .. all .. and how many KINDS, together, cut)
    private static void surpriseIsCut() {
        int[][] rows = {
            // kinds, seen of kind 0, seen of the last kind, SURPRISE by kind 0
            {2, 0, 0, 50}, {3, 0, 0, 67}, {4, 0, 0, 75}, {4, 1, 1, 67}, {3, 0, 3, 84}, {2, 0, 5, 86}, {2, 9, 9, 50},
            {2, 9, 0, 10}, {2, 9, 8, 48}, {4, 0, 9, 93}, {4, 9, 0, 24}, {3, 9, 1, 24},
        };
        for (int[] row : rows) {
            String between = " 0".repeat(row[0] - 2);
            SurprisedMayor x = Check.town("k" + row[0] + ";p0 0 " + row[1] + between + " " + row[2] + ";");
            due("7 surprise with " + row[1] + " of " + row[2] + " more", x.surprise(0, 0), row[3]);
        }
    }

    private static void leastSurprise() {
        for (int seen = 0; seen <= 9; seen++) {
            due("7 the sole kind", Check.town("k1;p0 0 " + seen + ";").surprise(0, 0), 0);
        }
        // 100 times 100 by 101 is cut to 99
        SurprisedMayor x = Check.town("k2;p0 0 9 0;");
        tell(x, 0, 0, 90);
        due("7 of two kinds it is 1 at least", x.surprise(0, 0), 1);
        tell(x, 0, 0, 200);
        due("7 of two kinds it is 1 at least", x.surprise(0, 0), 1);
    }

    private static void greatestSurprise() {
        SurprisedMayor x = Check.town("k2;p0 0 0 9;");
        tell(x, 0, 1, 89);
        due("5 seen together", x.person(0, 3), 98);
        due("7 by 100 of all", x.surprise(0, 0), 99);
        due("8 most", x.now(2), 99);
        tell(x, 0, 1, 1);
        due("7 by 101 of all", x.surprise(0, 0), 100);
        due("8 most", x.now(2), 100);
        tell(x, 0, 1, 200);
        due("7 never above 100", x.surprise(0, 0), 100);
    }

    // One JUMPS, if SURPRISE is NERVE or more
    private static void jumpsIfSurpriseIsNerve() {
        for (int kinds = 2; kinds <= 4; kinds++) {
            int surprise = 100 - 100 / kinds;
            String seen = " 0".repeat(kinds) + ";";
            String head = "k" + kinds + ";p";
            due("9 nerve one less", Check.town(head + (surprise - 1) + " 0" + seen).happens(0, 0), 1);
            due("9 nerve the same", Check.town(head + surprise + " 0" + seen).happens(0, 0), 1);
            due("9 nerve one more", Check.town(head + (surprise + 1) + " 0" + seen).happens(0, 0), 0);
        }
    }

    private static void jumpsByTheLeastSurprise() {
        due("9 nerve 0, surprise 0", Check.town("k1;p0 0 0;").happens(0, 0), 1);
        due("9 nerve 1, surprise 0", Check.town("k1;p1 0 0;").happens(0, 0), 0);
    }

    private static void jumpsByTheGreatestSurprise() {
        SurprisedMayor x = Check.town("k2;p99 0 0 9;");
        // by 50 of all it is 98, by 51 it is 99
        tell(x, 0, 1, 39);
        due("7 surprise", x.surprise(0, 0), 98);
        due("9 nerve 99, surprise 98", x.happens(0, 0), 0);
        x.undo();
        tell(x, 0, 1, 1);
        due("7 surprise", x.surprise(0, 0), 99);
        due("9 nerve 99, surprise 99", x.happens(0, 0), 1);
        x.undo();
        tell(x, 0, 1, 60);
        due("7 surprise", x.surprise(0, 0), 100);
        due("9 nerve 99, surprise 100", x.happens(0, 0), 1);
    }

    // There is no MAYOR at first, none has had a TERM
    private static void noMayorAtFirst() {
        SurprisedMayor x = Check.town("p0 0 0 0 0;p0 1 9 9 9;");
        due("8 mayor", x.now(0), NONE);
        due("8 terms", x.now(1), 0);
        due("5 terms", x.person(0, 2), 0);
        due("5 terms", x.person(1, 2), 0);
        due("24 how many have had one", x.keep(0), 0);
    }

    // of those who are there and JUMP that one is MAYOR then whose SURPRISE is greatest
    private static void greatestOfThoseWhoJump() {
        // by kind 0: 50, 67, 75
        String[] rows = {"k2;p0 0 0 0;p0 0 0 1;p0 0 0 2;", "k2;p0 0 0 2;p0 0 0 1;p0 0 0 0;",
            "k2;p0 0 0 1;p0 0 0 2;p0 0 0 0;", "k2;p0 0 0 1;p0 0 0 0;p76 0 0 2;"};
        int[] jump = {7, 7, 7, 3};
        int[] mayor = {2, 0, 1, 0};
        for (int i = 0; i < rows.length; i++) {
            SurprisedMayor x = Check.town(rows[i]);
            due("9 who jumps of " + rows[i], x.happens(0, 0), jump[i]);
            due("9 mayor of " + rows[i], x.now(0), mayor[i]);
            due("9 his term", x.person(mayor[i], 2), 1);
            due("9 no other's", x.now(1), 1);
        }
    }

    // of several the lowest
    private static void lowestOfSeveral() {
        SurprisedMayor x = Check.town("k2;p51 0 0 0;p0 0 0 0;p50 0 0 0;p7 0 0 0;");
        due("9 who jumps", x.happens(0, 0), 14);
        due("9 the lowest of them", x.now(0), 1);
        // 67 is 100 less 100 by 3, cut, and 100 less 400 by 12, cut
        SurprisedMayor y = Check.town("k3;p0 0 0 0 0;p0 0 3 3 3;");
        due("9 who jumps", y.happens(0, 0), 3);
        due("9 the lowest, both by 67", y.now(0), 0);
    }

    private static void lowestOfSeveralByWhatIsCut() {
        // 900 by 17 and 1000 by 19 are both cut to 52, though the second is less
        SurprisedMayor x = Check.town("k2;p48 0 8 7;p48 0 9 8;");
        due("7 surprise of 0", x.surprise(0, 0), 48);
        due("7 surprise of 1", x.surprise(1, 0), 48);
        due("14 the lowest of both by 48", x.who(0, 0), 0);
        due("9 both jump", x.happens(0, 0), 3);
        due("8 the lowest of both by 48", x.now(0), 0);
    }

    private static void onlyThoseWhoAreThere() {
        SurprisedMayor x = Check.town("k2;x4;p0 0 0 9;p0 1 0 0;p0 2 0 9;p0 3 0 9;");
        due("9 who jumps", x.happens(0, 1), 2);
        due("9 mayor", x.now(0), 1);
        due("9 at the highest place", x.happens(0, 3), 8);
        due("9 mayor", x.now(0), 3);
    }

    // if none JUMPS, the MAYOR stays
    private static void nobodyJumps() {
        SurprisedMayor x = Check.town("k2;p51 0 0 0;p50 1 0 0;");
        due("9 none", x.happens(0, 0), 0);
        due("9 still no mayor", x.now(0), NONE);
        due("9 he has seen it", x.seen(0, 0), 1);
        x.happens(0, 1);
        due("9 a mayor", x.now(0), 1);
        due("9 none", x.happens(0, 0), 0);
        due("9 he stays", x.now(0), 1);
        due("9 without a term more", x.now(1), 1);
        due("9 none, the mayor is there", x.happens(0, 1), 0);
        due("9 he stays", x.now(0), 1);
    }

    private static void nobodyIsThere() {
        SurprisedMayor x = Check.town("x4;p0 0 0 0 0;");
        due("9 nobody there", x.happens(0, 3), 0);
        due("9 no mayor", x.now(0), NONE);
        due("9 not seen", x.person(0, 3), 0);
        x.happens(0, 0);
        due("9 nobody there", x.happens(1, 2), 0);
        due("9 the mayor stays", x.now(0), 0);
        due("9 his terms stay", x.now(1), 1);
    }

    private static void noPeople() {
        SurprisedMayor x = new SurprisedMayor();
        due("9 lowest", x.happens(0, 0), 0);
        due("9 highest", x.happens(2, 1), 0);
        due("8 no mayor", x.now(0), NONE);
        due("8 no terms", x.now(1), 0);
        due("8 two may be undone", x.now(3), 2);
        due("13 undo", x.undo(), 1);
        due("13 undo", x.undo(), 0);
        due("13 none", x.undo(), STATE);
    }

    // (if he is not: it is a TERM more of his)
    private static void noTermMoreForTheMayor() {
        SurprisedMayor x = Check.town("k1;p0 0 0;");
        for (int i = 0; i < 5; i++) {
            due("9 he jumps", x.happens(0, 0), 1);
            due("9 one term", x.person(0, 2), 1);
        }
    }

    private static void termMoreForWhoIsNotMayorAnyMore() {
        SurprisedMayor x = Check.town("k1;p0 0 0;p0 1 0;");
        for (int i = 1; i <= 20; i++) {
            x.happens(0, 0);
            x.happens(0, 1);
            due("9 terms of 0", x.person(0, 2), i);
            due("9 terms of 1", x.person(1, 2), i);
            due("8 all terms", x.now(1), 2 * i);
        }
    }

    private static void termMoreBehindAbdication() {
        SurprisedMayor x = Check.town("k1;p0 0 0;");
        x.happens(0, 0);
        x.abdicates();
        due("5 his term stays", x.person(0, 2), 1);
        x.happens(0, 0);
        due("5 a term more", x.person(0, 2), 2);
    }

    private static void mayorMayBeElsewhere() {
        SurprisedMayor x = Check.town("k1;p0 0 0;p0 1 0;");
        x.happens(0, 0);
        x.walks(0, 1);
        due("8 he walks as mayor", x.now(0), 0);
        x.happens(0, 0);
        due("8 nobody there, he stays", x.now(0), 0);
        x.walks(0, 0);
        x.happens(0, 1);
        due("8 another one's turn", x.now(0), 1);
    }

    // Then all who are there have SEEN
    private static void surpriseIsOfAheadOfTheEvent() {
        // 50 ahead of it, 34 behind it
        SurprisedMayor x = Check.town("k2;p50 0 0 0;");
        due("9 he jumps", x.happens(0, 0), 1);
        due("7 behind it", x.surprise(0, 0), 34);
        due("9 he does not", x.happens(0, 0), 0);
    }

    // all who are there have SEEN that KIND once more
    private static void allWhoAreThereHaveSeenIt() {
        SurprisedMayor x = Check.town("k4;x2;p0 1 1 2 3 4;p99 1 5 6 7 8;p0 0 1 1 1 1;");
        due("9 one jumps", x.happens(3, 1), 1);
        int[][] rows = {{1, 2, 3, 5}, {5, 6, 7, 9}, {1, 1, 1, 1}};
        int[] together = {11, 27, 4};
        for (int p = 0; p < 3; p++) {
            for (int kind = 0; kind < 4; kind++) {
                due("6 seen(" + p + ", " + kind + ")", x.seen(p, kind), rows[p][kind]);
            }
            due("5 seen together", x.person(p, 3), together[p]);
        }
    }

    private static void bitsOfWhoJumps() {
        for (int p = 0; p < 5; p++) {
            StringBuilder b = new StringBuilder("k1;");
            for (int i = 0; i < 5; i++) {
                b.append(i == p ? "p0 0 0;" : "p1 0 0;");
            }
            due("9 bit of " + p, Check.town(b.toString()).happens(0, 0), 1 << p);
        }
        due("9 all", Check.town("k1;" + "p0 0 0;".repeat(5)).happens(0, 0), 31);
        due("9 none", Check.town("k1;" + "p1 0 0;".repeat(5)).happens(0, 0), 0);
    }

    private static void seenGoesBeyondNine() {
        SurprisedMayor x = Check.town("k2;p0 0 9 9;");
        due("11 tenth by word", x.tells(0, 0), 10);
        x.happens(1, 0);
        due("6 tenth by an event", x.seen(0, 1), 10);
        due("5 together", x.person(0, 3), 20);
    }

    // (999 at most): no 512 calls come so far, the bound is looked at all the same
    private static void seenIsToldUpTo999() {
        SurprisedMayor x = Check.town("k2;p0 0 9 9;");
        tell(x, 0, 0, 988);
        due("6 997", x.seen(0, 0), 997);
        due("11 998", x.tells(0, 0), 998);
        due("11 999", x.tells(0, 0), 999);
        due("11 999 at most", x.tells(0, 0), 999);
        due("5 together", x.person(0, 3), 1008);
        due("11 the other kind goes on", x.tells(0, 1), 10);
    }

    private static void seenHappensUpTo999() {
        SurprisedMayor x = Check.town("k2;p0 0 9 9;");
        tell(x, 0, 1, 989);
        due("6 998", x.seen(0, 1), 998);
        x.happens(1, 0);
        due("6 999", x.seen(0, 1), 999);
        x.happens(1, 0);
        due("6 999 at most", x.seen(0, 1), 999);
        due("5 together", x.person(0, 3), 1008);
        due("8 both may be undone", x.undo(), 9);
        due("6 as ahead of it", x.seen(0, 1), 999);
        x.undo();
        due("6 as ahead of that", x.seen(0, 1), 998);
    }

    // WALKED: one goes to another PLACE
    private static void walksToAnotherPlace() {
        SurprisedMayor x = Check.town("k1;x4;p0 3 0;p0 3 0;");
        due("10 from the highest to the lowest", x.walks(0, 0), 3);
        due("5 place", x.person(0, 1), 0);
        due("10 and back", x.walks(0, 3), 0);
        due("5 place", x.person(0, 1), 3);
        due("10 one beyond", x.walks(0, 4), BAD);
        due("10 one below", x.walks(0, -1), BAD);
        due("5 the other stays", x.person(1, 1), 3);
        due("6 nothing is seen", x.person(0, 3), 0);
    }

    // STATE: he is there
    private static void walksNotWhereHeIs() {
        SurprisedMayor x = Check.town("k1;x4;p0 3 0;p0 0 0;");
        due("10 at the highest", x.walks(0, 3), STATE);
        due("10 at the lowest", x.walks(1, 0), STATE);
        x.walks(1, 2);
        due("10 where he went", x.walks(1, 2), STATE);
        due("10 another may", x.walks(0, 2), 3);
        due("10 where both fit, BAD is first", x.walks(2, 2), BAD);
        SurprisedMayor y = Check.town("k1;x1;p0 0 0;");
        due("10 the sole place", y.walks(0, 0), STATE);
        due("10 one beyond", y.walks(0, 1), BAD);
    }

    // TOLD: .. without SURPRISE
    private static void toldWithoutSurprise() {
        SurprisedMayor x = Check.town("k1;p0 0 0;p0 1 0;");
        due("11 told", x.tells(0, 0), 1);
        due("8 no mayor by it", x.now(0), NONE);
        x.happens(0, 1);
        due("11 told", x.tells(0, 0), 2);
        due("8 the mayor stays", x.now(0), 1);
        due("8 no term by it", x.now(1), 1);
        due("6 the other is not told", x.seen(1, 0), 1);
    }

    // ABDICATED: there is no MAYOR; STATE: nobody
    private static void abdicatesOnce() {
        SurprisedMayor x = Check.town("k1;" + "p1 0 0;".repeat(4) + "p0 0 0;");
        due("12 nobody yet", x.abdicates(), STATE);
        x.happens(0, 0);
        due("12 the highest of five", x.abdicates(), 4);
        due("12 nobody any more", x.abdicates(), STATE);
        due("8 no mayor", x.now(0), NONE);
        due("13 one of them is undone", x.undo(), 1);
        due("8 mayor again", x.now(0), 4);
        due("12 and again", x.abdicates(), 4);
        SurprisedMayor y = Check.town("k1;p0 0 0;");
        y.happens(0, 0);
        due("12 the lowest", y.abdicates(), 0);
    }

    // STATE: none
    private static void noneToBeUndone() {
        due("13 of a new object", new SurprisedMayor().undo(), STATE);
        SurprisedMayor x = Check.town("k1;p0 0 0;");
        due("13 of a town just read", x.undo(), STATE);
        x.tells(0, 0);
        due("13 the only one", x.undo(), 0);
        due("13 none any more", x.undo(), STATE);
        due("8 none", x.now(3), 0);
    }

    // the latest happens(), walks(), tells(), abdicates()
    private static void eachThingDoneIsOneToBeUndone() {
        SurprisedMayor x = Check.town("k1;p0 0 0;");
        x.happens(0, 0);
        due("8 happens", x.now(3), 1);
        x.walks(0, 1);
        due("8 walks", x.now(3), 2);
        x.tells(0, 0);
        due("8 tells", x.now(3), 3);
        x.abdicates();
        due("8 abdicates", x.now(3), 4);
        due("13 the latest first: abdicates", x.undo(), 3);
        due("8 mayor", x.now(0), 0);
        due("13 tells", x.undo(), 2);
        due("6 seen", x.seen(0, 0), 1);
        due("13 walks", x.undo(), 1);
        due("5 place", x.person(0, 1), 0);
        due("13 happens", x.undo(), 0);
        due("8 mayor", x.now(0), NONE);
    }

    private static void eventThatNobodySeesIsUndone() {
        SurprisedMayor x = Check.town("k1;p0 0 0;");
        x.tells(0, 0);
        x.happens(0, 1);
        due("13 the event", x.undo(), 1);
        due("6 not what was told", x.seen(0, 0), 1);
        due("13 what was told", x.undo(), 0);
        due("6 now that", x.seen(0, 0), 0);
    }

    // that was not refused
    private static void refusedOnesAreNotUndone() {
        SurprisedMayor x = Check.town("k1;p0 0 0;");
        x.walks(0, 1);
        x.abdicates();
        x.walks(0, 1);
        x.walks(1, 0);
        x.tells(0, 1);
        x.tells(1, 0);
        x.happens(1, 0);
        x.happens(0, 2);
        due("8 one may be", x.now(3), 1);
        due("13 the walk", x.undo(), 0);
        due("5 place", x.person(0, 1), 0);
        due("13 a refused undo, too", x.undo(), STATE);
        due("8 none may be", x.now(3), 0);
    }

    private static void otherCallsAreNotUndone() {
        SurprisedMayor x = Check.town("k2;p0 0 0 0;");
        x.tells(0, 1);
        x.notes(0, 0, 1);
        x.forget();
        x.keep(0);
        x.rate(0, 0);
        x.type('k');
        x.clear();
        x.plan(0, -1);
        x.duel(0, 3, 0);
        x.who(0, 0);
        x.stale(0, 0);
        x.odds(0, 0, 4, 0);
        due("8 one may be", x.now(3), 1);
        due("13 the word", x.undo(), 0);
        due("6 not told", x.seen(0, 1), 0);
    }

    private static void undoIsNotUndone() {
        SurprisedMayor x = Check.town("k1;p0 0 0;");
        x.tells(0, 0);
        x.tells(0, 0);
        due("13 the second", x.undo(), 1);
        due("13 the first", x.undo(), 0);
        due("6 seen", x.seen(0, 0), 0);
        due("13 none", x.undo(), STATE);
    }

    // 10 are known
    private static void tenAreKnown() {
        SurprisedMayor x = Check.town("k1;p0 0 0;");
        tell(x, 0, 0, 9);
        due("8 nine", x.now(3), 9);
        tell(x, 0, 0, 1);
        due("8 ten", x.now(3), 10);
        for (int more = 9; more >= 0; more--) {
            due("13 undo", x.undo(), more);
            due("6 seen", x.seen(0, 0), more);
        }
        due("13 none", x.undo(), STATE);
        due("6 as at first", x.seen(0, 0), 0);
    }

    // older ones are lost
    private static void elevenAndTheOldestIsLost() {
        SurprisedMayor x = Check.town("k1;p0 0 0;");
        tell(x, 0, 0, 11);
        due("8 still ten", x.now(3), 10);
        for (int more = 9; more >= 0; more--) {
            due("13 undo", x.undo(), more);
            due("6 seen", x.seen(0, 0), more + 1);
        }
        due("13 the oldest is lost", x.undo(), STATE);
        due("6 what it did stays", x.seen(0, 0), 1);
    }

    private static void lostOnesStayLost() {
        SurprisedMayor x = Check.town("k1;p0 0 0;");
        tell(x, 0, 0, 13);
        for (int i = 0; i < 4; i++) {
            x.undo();
        }
        due("8 six are left", x.now(3), 6);
        tell(x, 0, 0, 2);
        due("8 eight", x.now(3), 8);
        for (int i = 0; i < 8; i++) {
            x.undo();
        }
        due("13 three were lost", x.undo(), STATE);
        due("6 what they did stays", x.seen(0, 0), 3);
        tell(x, 0, 0, 25);
        due("8 ten again", x.now(3), 10);
    }

    private static void tenOfAllSorts() {
        SurprisedMayor x = Check.town("k2;p0 0 0 0;p0 1 0 0;");
        String[] looks = new String[11];
        for (int i = 0; i <= 10; i++) {
            looks[i] = rest(Look.at(x));
            switch (i % 4) {
                case 0 -> x.happens(i % 2, x.person(1, 1));
                case 1 -> x.walks(1, 1 - x.person(1, 1));
                case 2 -> x.tells(0, 1);
                default -> x.abdicates();
            }
        }
        for (int i = 10; i > 0; i--) {
            due("13 undo", x.undo(), i - 1);
            CHECK.same("13 as ahead of thing " + i, rest(Look.at(x)), looks[i]);
        }
        due("13 the first of eleven is lost", x.undo(), STATE);
    }

    /** A look without how many may be UNDONE, which each step changes. */
    private static String rest(String look) {
        return look.replaceAll("(now \\S+ \\S+ \\S+) \\S+", "$1");
    }

    private static void undoneTermsAndMayor() {
        SurprisedMayor x = Check.town("k1;p0 0 0;p0 1 0;");
        x.happens(0, 0);
        x.happens(0, 1);
        x.undo();
        due("8 the mayor of before", x.now(0), 0);
        due("5 no term of 1", x.person(1, 2), 0);
        due("5 a term of 0", x.person(0, 2), 1);
        x.undo();
        due("8 no mayor", x.now(0), NONE);
        due("8 no terms", x.now(1), 0);
        x.happens(0, 0);
        due("5 one term, not two", x.person(0, 2), 1);
    }

    private static void undoLeavesAllElse() {
        SurprisedMayor x = Check.town("k1;p0 0 0;");
        x.tells(0, 0);
        x.keep(1);
        x.notes(0, 0, 1);
        x.rate(5, 0);
        x.type('?');
        x.undo();
        due("26 noted", x.count(3), 1);
        due("26 letters", x.count(4), 1);
        due("27 the trace goes on", x.trace(), 100001);
        due("25 the image is kept", x.back(1), 0);
        due("6 as it was kept", x.seen(0, 0), 1);
    }

    private static void answersOfNow() {
        SurprisedMayor x = Check.town("k1;" + "p1 0 0;".repeat(4) + "p0 0 0;");
        due("8 nobody", x.now(0), NONE);
        x.happens(0, 0);
        due("8 the highest of five", x.now(0), 4);
        due("8 one below", x.now(-1), SurprisedMayor.NO);
        due("8 one beyond", x.now(4), SurprisedMayor.NO);
        due("8 most of one kind", x.now(2), 0);
        due("8 most without people", new SurprisedMayor().now(2), -1);
    }

    // at most 512 calls
    private static void lastCallsAreAnswered() {
        SurprisedMayor x = new SurprisedMayor();
        Check.type(x, "k2;p0 0 9 0;");
        x.town();
        // 13 calls till here; 496 more, then three
        tell(x, 0, 0, 496);
        due("6 call 510", x.seen(0, 0), 505);
        due("9 call 511", x.happens(1, 0), 1);
        due("13 call 512", x.undo(), 9);
    }
}
