/** A method for each promise of the document; the answers are worked out by hand. */
public final class PromisesTest {
    private static final int BAD = -1, STATE = -2, FULL = -3, NONE = -9, NO = -1000000;
    private static final int[] FAR = {Integer.MIN_VALUE, -2, -1, 99, Integer.MAX_VALUE};

    private static final Check CHECK = new Check();

    public static void main(String[] args) {
        newObject();
        type();
        clear();
        townReads();
        townFaults();
        townFaultChangesNothing();
        townTellsAllAnew();
        person();
        seen();
        surprise();
        now();
        happens();
        happensChooses();
        walks();
        tells();
        abdicates();
        undo();
        undoKnowsTen();
        who();
        plan();
        duel();
        duelOfTwo();
        stale();
        odds();
        notes();
        forget();
        nerves();
        test();
        rate();
        keep();
        back();
        count();
        trace();
        CHECK.end();
    }

    private static void due(String call, long got, long want) {
        CHECK.due(call, got, want);
    }

    // 1
    private static void newObject() {
        SurprisedMayor x = new SurprisedMayor();
        due("1 kinds", x.count(0), 3);
        due("1 places", x.count(1), 2);
        due("1 people", x.count(2), 0);
        due("1 noted", x.count(3), 0);
        due("1 letters", x.count(4), 0);
        due("1 mayor", x.now(0), NONE);
        due("1 terms", x.now(1), 0);
        due("1 most", x.now(2), -1);
        due("1 undo", x.now(3), 0);
        due("1 trace", x.trace(), 0);
        due("1 nobody", x.person(0, 0), BAD);
        due("1 happens", x.happens(2, 1), 0);
        due("1 happens, no kind", x.happens(3, 1), BAD);
        due("1 happens, no place", x.happens(2, 2), BAD);
        due("1 no image", x.back(0), STATE);
        due("1 no image", x.back(1), STATE);
        SurprisedMayor y = new SurprisedMayor();
        due("1 objects share nothing", y.now(3), 0);
    }

    // 2
    private static void type() {
        SurprisedMayor x = new SurprisedMayor();
        due("2 type(0)", x.type(0), 1);
        due("2 type(255)", x.type(255), 2);
        for (int letter : new int[] {-1, 256, Integer.MIN_VALUE, Integer.MAX_VALUE}) {
            due("2 type(" + letter + ")", x.type(letter), BAD);
        }
        due("2 refused letters don't come", x.count(4), 2);
        for (int i = 3; i <= 150; i++) {
            due("2 letter " + i, x.type(' '), i);
        }
        due("2 full", x.type(' '), FULL);
        due("2 bad ahead of full", x.type(256), BAD);
        due("2 letters", x.count(4), 150);
    }

    // 3
    private static void clear() {
        SurprisedMayor x = new SurprisedMayor();
        due("3 nothing to clear", x.clear(), 0);
        Check.type(x, "abc");
        due("3 clear", x.clear(), 3);
        due("3 clear again", x.clear(), 0);
        due("3 letters", x.count(4), 0);
        Check.type(x, "k2;");
        due("3 read what came behind it", x.town(), 1);
        Check.type(x, " ".repeat(150));
        due("3 clear a full one", x.clear(), 150);
        due("3 room again", x.type('k'), 1);
    }

    // 4
    private static void townReads() {
        String five = "p0 0 0 0 0;".repeat(5);
        Object[][] rows = {
            {"", 0}, {"   ", 0}, {"k1;", 1}, {"k4;", 1}, {"x1;", 1}, {"x4;", 1}, {"x4;k1;", 2},
            {" k  2 ; x 3 ;  p 99 2 9 9 ; ", 3}, {"k2;x3;p0 0 0 0;", 3}, {"p99 1 9 9 9;", 1},
            {five, 5}, {"k3;x2;" + five, 7}, {"k4;p10 0 1 2 3 4 ;", 2},
        };
        for (Object[] row : rows) {
            due("4 town() of '" + row[0] + "'", Check.read((String) row[0]), (Integer) row[1]);
        }
        SurprisedMayor x = new SurprisedMayor();
        Check.type(x, "k2;x4;p10 3 4 5;p99 0 9 0;" + " ".repeat(124));
        due("4 a text of 150", x.town(), 4);
        due("4 the text is empty then", x.count(4), 0);
        due("4 nerve", x.person(0, 0), 10);
        due("4 place", x.person(0, 1), 3);
        due("4 seen", x.seen(0, 0), 4);
        due("4 seen", x.seen(0, 1), 5);
        due("4 nerve", x.person(1, 0), 99);
        due("4 place", x.person(1, 1), 0);
        due("4 seen", x.seen(1, 0), 9);
        due("4 seen", x.seen(1, 1), 0);
    }

    private static void townFaults() {
        String five = "p0 0 0 0 0;".repeat(5);
        Object[][] rows = {
            // a token that can't stand there
            {";", 0}, {" ;", 1}, {"2;", 0}, {"k;", 1}, {"kk2;", 1}, {"kx", 1}, {"k2x3;", 2}, {"k2 3;", 3},
            {"k2;;", 3}, {"p;", 1}, {"p1;", 2}, {"p1 p", 3}, {"p1 0 0 0 0 p", 11},
            // again, or behind a p
            {"k1;k1;", 3}, {"x1;x1;", 3}, {"k1;x1;k1;", 6}, {"x1;k1;x1;", 6},
            {"p1 0 0 0 0;k2;", 11}, {"p1 0 0 0 0;x2;", 11}, {"k2;p1 0 0 0; k2;", 13},
            {five + "p", 55}, {five + "  p0 0 0 0 0;", 57}, {five + "k", 55},
            // numbers beyond what they may be
            {"k0;", 1}, {"k5;", 1}, {"x0;", 1}, {"x5;", 1}, {"k 10;", 2}, {"x99;", 1},
            {"p1 2 0 0 0;", 3}, {"x1;p1 1 0 0 0;", 6}, {"x3;p1 3 0 0 0;", 6}, {"p1 0 10 0 0;", 5},
            {"p1 0 0 0 10;", 9},
            // one too many or too few
            {"p1 0 0 0;", 8}, {"p1 0 0 0 ;", 9}, {"p1 0 0 0 0 0;", 11}, {"k1;p1 0 0 0;", 10}, {"k4;p1 0 0 0 0;", 13},
            // no such token
            {"K2;", 0}, {"\t", 0}, {"\n", 0}, {"k2;q", 3}, {"k2a;", 2}, {"k-1;", 1}, {"k2,", 2},
            {"k2;" + (char) 0, 3}, {"k2;" + (char) 255, 3}, {"k" + (char) 160 + "2;", 1},
            {"k100;", 1}, {"k02;", 1}, {"k00;", 1}, {"p100 0 0 0 0;", 1}, {"p07 0 0 0 0;", 1}, {"p00 0 0 0 0;", 1},
            {"p0 00 0 0 0;", 3}, {"p0 0 0 0 01;", 9}, {"p99999999999999999999 0 0 0 0;", 1},
            {"p4294967297 0 0 0 0;", 1}, {"p000 0 0 0 0;", 1}, {"p1 0 0 0 0 100", 11},
            // it ends too early
            {"k", 1}, {"k  ", 3}, {"k2", 2}, {"k2  ", 4}, {" x 2", 4}, {"p", 1}, {"p1", 2}, {"p1 0 0 0 0", 10},
            {"p1 0 0 0 0 ", 11}, {"k2;p1 0 0", 9}, {"k2;x", 4},
            // the first fault, not the gravest
            {"k5;k", 1}, {"k2;p1 0 0 0 0 a", 12}, {"x2;x?", 3},
        };
        for (Object[] row : rows) {
            due("4 town() of '" + row[0] + "'", Check.read((String) row[0]), -10 - (Integer) row[1]);
        }
        SurprisedMayor x = new SurprisedMayor();
        Check.type(x, "k2" + " ".repeat(148));
        due("4 fault at 150", x.town(), -160);
    }

    private static void townFaultChangesNothing() {
        SurprisedMayor x = Check.town("k2;x3;p50 1 0 0;p99 2 3 4;");
        x.happens(0, 1);
        x.keep(0);
        x.tells(1, 0);
        x.notes(1, 1, 0);
        Check.type(x, "k4;x4;p1 0 0 0 0 0;p9 9");
        due("4 fault", x.town(), -32);
        due("4 fault again, the text stays", x.town(), -32);
        due("4 letters", x.count(4), 23);
        due("4 kinds stay", x.count(0), 2);
        due("4 places stay", x.count(1), 3);
        due("4 people stay", x.count(2), 2);
        due("4 notes stay", x.count(3), 1);
        due("4 mayor stays", x.now(0), 0);
        due("4 terms stay", x.now(1), 1);
        due("4 what may be undone stays", x.now(3), 2);
        due("4 nerve stays", x.person(0, 0), 50);
        due("4 place stays", x.person(0, 1), 1);
        due("4 seen stays", x.seen(1, 0), 4);
        due("4 image stays", x.back(0), 1);
        due("4 as kept", x.seen(1, 0), 3);
        x.clear();
        due("4 an empty text", x.town(), 0);
    }

    private static void townTellsAllAnew() {
        SurprisedMayor x = Check.town("k4;x4;p0 3 0 0 0 9;p0 0 0 0 0 9;");
        x.happens(0, 3);
        x.keep(0);
        x.keep(1);
        x.notes(0, 3, 1);
        x.rate(5, 0);
        Check.type(x, "p7 1 1 0 2;");
        due("4 town", x.town(), 1);
        due("4 kinds as at first", x.count(0), 3);
        due("4 places as at first", x.count(1), 2);
        due("4 people", x.count(2), 1);
        due("4 nothing noted", x.count(3), 0);
        due("4 no mayor", x.now(0), NONE);
        due("4 no terms", x.now(1), 0);
        due("4 nothing can be undone", x.now(3), 0);
        due("4 undo", x.undo(), STATE);
        due("4 image 0 is gone", x.back(0), STATE);
        due("4 image 1 is gone", x.back(1), STATE);
        due("4 the trace goes on", x.trace(), 100001);
        due("4 nothing of old is seen", x.person(0, 3), 3);
        due("4 an empty text", x.town(), 0);
        due("4 nobody is left", x.count(2), 0);
        due("4 most", x.now(2), -1);
        due("4 the trace goes on", x.trace(), 100001);
    }

    // 5
    private static void person() {
        SurprisedMayor x = Check.town("k2;x3;p50 0 0 0;p34 2 9 2;");
        due("5 nerve", x.person(0, 0), 50);
        due("5 place", x.person(0, 1), 0);
        due("5 terms", x.person(0, 2), 0);
        due("5 seen", x.person(0, 3), 0);
        due("5 nerve", x.person(1, 0), 34);
        due("5 place", x.person(1, 1), 2);
        due("5 seen", x.person(1, 3), 11);
        x.happens(1, 2);
        x.walks(1, 1);
        due("5 place", x.person(1, 1), 1);
        due("5 terms", x.person(1, 2), 1);
        due("5 seen", x.person(1, 3), 12);
        due("5 terms of the other", x.person(0, 2), 0);
        for (int far : FAR) {
            due("5 person(" + far + ", 0)", x.person(far, 0), BAD);
            due("5 person(0, " + far + ")", x.person(0, far), BAD);
        }
        due("5 person(2, 0)", x.person(2, 0), BAD);
        due("5 person(0, 4)", x.person(0, 4), BAD);
    }

    // 6
    private static void seen() {
        SurprisedMayor x = Check.town("k2;x2;p50 0 3 0;p34 1 9 2;");
        due("6 seen(0, 0)", x.seen(0, 0), 3);
        due("6 seen(0, 1)", x.seen(0, 1), 0);
        due("6 seen(1, 0)", x.seen(1, 0), 9);
        due("6 seen(1, 1)", x.seen(1, 1), 2);
        x.happens(1, 0);
        due("6 seen by who was there", x.seen(0, 1), 1);
        due("6 not by who was not", x.seen(1, 1), 2);
        for (int far : FAR) {
            due("6 seen(" + far + ", 0)", x.seen(far, 0), BAD);
            due("6 seen(0, " + far + ")", x.seen(0, far), BAD);
        }
        due("6 seen(2, 0)", x.seen(2, 0), BAD);
        due("6 seen(0, 2)", x.seen(0, 2), BAD);
    }

    // 7
    private static void surprise() {
        SurprisedMayor x = Check.town("p60 0 1 0 4;p70 0 0 0 0;");
        due("7 100 less 200 by 8", x.surprise(0, 0), 75);
        due("7 100 less 100 by 8, cut", x.surprise(0, 1), 88);
        due("7 100 less 500 by 8, cut", x.surprise(0, 2), 38);
        due("7 100 less 100 by 3, cut", x.surprise(1, 2), 67);
        for (int far : FAR) {
            due("7 surprise(" + far + ", 0)", x.surprise(far, 0), BAD);
            due("7 surprise(0, " + far + ")", x.surprise(0, far), BAD);
        }
        due("7 surprise(2, 0)", x.surprise(2, 0), BAD);
        due("7 surprise(0, 3)", x.surprise(0, 3), BAD);
        due("7 a sole kind never surprises", Check.town("k1;p0 0 9;").surprise(0, 0), 0);
        SurprisedMayor y = Check.town("k2;p0 0 0 9;");
        for (int i = 0; i < 89; i++) {
            y.tells(0, 1);
        }
        due("7 100 less 100 by 100", y.surprise(0, 0), 99);
        y.tells(0, 1);
        due("7 100 less 100 by 101, cut", y.surprise(0, 0), 100);
    }

    // 8
    private static void now() {
        SurprisedMayor x = Check.town("k2;x2;p50 0 0 0;p10 1 0 3;");
        due("8 no mayor", x.now(0), NONE);
        due("8 no terms", x.now(1), 0);
        due("8 most: 100 less 100 by 5", x.now(2), 80);
        due("8 nothing to undo", x.now(3), 0);
        x.happens(0, 0);
        x.happens(0, 1);
        x.happens(0, 0);
        due("8 who is mayor", x.now(0), 1);
        due("8 all terms", x.now(1), 2);
        due("8 three to undo", x.now(3), 3);
        due("8 most: person 0, 100 less 100 by 4", x.now(2), 75);
        x.walks(0, 1);
        x.walks(0, 1);
        due("8 a refused one is none to undo", x.now(3), 4);
        for (int far : FAR) {
            due("8 now(" + far + ")", x.now(far), NO);
        }
        due("8 now(4)", x.now(4), NO);
    }

    // 9
    private static void happens() {
        SurprisedMayor x = Check.town("k2;x3;p50 0 0 0;p51 0 0 0;p0 1 9 0;");
        due("9 surprise 50: nerve 50 jumps, 51 not", x.happens(0, 0), 1);
        due("9 mayor", x.now(0), 0);
        due("9 a term", x.person(0, 2), 1);
        due("9 seen by who jumped", x.seen(0, 0), 1);
        due("9 seen by who did not", x.seen(1, 0), 1);
        due("9 not seen elsewhere", x.seen(2, 0), 9);
        due("9 both by 67", x.happens(1, 0), 3);
        due("9 of several the lowest", x.now(0), 0);
        due("9 he was mayor: no term more", x.person(0, 2), 1);
        due("9 elsewhere", x.happens(0, 1), 4);
        due("9 mayor", x.now(0), 2);
        due("9 all terms", x.now(1), 2);
        due("9 back again", x.happens(1, 0), 1);
        due("9 a term more", x.person(0, 2), 2);
        due("9 nobody there", x.happens(0, 2), 0);
        due("9 the mayor stays", x.now(0), 0);
        due("9 it may be undone, too", x.now(3), 5);
        for (int far : FAR) {
            due("9 happens(" + far + ", 0)", x.happens(far, 0), BAD);
            due("9 happens(0, " + far + ")", x.happens(0, far), BAD);
        }
        due("9 happens(2, 0)", x.happens(2, 0), BAD);
        due("9 happens(0, 3)", x.happens(0, 3), BAD);
        due("9 refused: nothing to undo", x.now(3), 5);
    }

    private static void happensChooses() {
        SurprisedMayor x = Check.town("k2;x1;p0 0 5 0;p0 0 9 0;p99 0 9 0;");
        due("9 by 86, by 91, not by 91", x.happens(1, 0), 3);
        due("9 the greatest", x.now(0), 1);
        due("9 one term", x.now(1), 1);
        SurprisedMayor y = Check.town("k2;x1;p99 0 0 0;p0 0 3 0;");
        due("9 only who jumps counts", y.happens(0, 0), 2);
        due("9 though the other is surprised more", y.now(0), 1);
        SurprisedMayor z = Check.town("k2;x1;p60 0 0 0;p60 0 0 0;p60 0 0 0;p60 0 0 0;p0 0 0 0;");
        due("9 the fifth's bit", z.happens(0, 0), 16);
        due("9 all by 67", z.happens(1, 0), 31);
        due("9 the lowest", z.now(0), 0);
        due("9 he was not: two terms in all", z.now(1), 2);
    }

    // 10
    private static void walks() {
        SurprisedMayor x = Check.town("k2;x3;p50 0 0 0;p51 2 0 0;");
        due("10 he is there", x.walks(0, 0), STATE);
        due("10 nothing was done", x.now(3), 0);
        due("10 from 0", x.walks(0, 2), 0);
        due("10 from 2", x.walks(0, 1), 2);
        due("10 place", x.person(0, 1), 1);
        due("10 the other stays", x.person(1, 1), 2);
        due("10 to undo", x.now(3), 2);
        due("10 it happens where he is", x.happens(0, 1), 1);
        for (int far : FAR) {
            due("10 walks(" + far + ", 0)", x.walks(far, 0), BAD);
            due("10 walks(0, " + far + ")", x.walks(0, far), BAD);
        }
        due("10 walks(2, 0)", x.walks(2, 0), BAD);
        due("10 walks(0, 3)", x.walks(0, 3), BAD);
        due("10 to undo", x.now(3), 3);
    }

    // 11
    private static void tells() {
        SurprisedMayor x = Check.town("k2;x2;p0 0 0 8;p0 0 0 0;");
        due("11 nine", x.tells(0, 1), 9);
        due("11 ten", x.tells(0, 1), 10);
        due("11 seen", x.seen(0, 1), 10);
        due("11 without surprise: no mayor", x.now(0), NONE);
        due("11 nobody else has seen it", x.seen(1, 1), 0);
        due("11 to undo", x.now(3), 2);
        for (int far : FAR) {
            due("11 tells(" + far + ", 0)", x.tells(far, 0), BAD);
            due("11 tells(0, " + far + ")", x.tells(0, far), BAD);
        }
        // more calls than an object is promised for, but no fewer show the bound
        SurprisedMayor y = Check.town("k2;x1;p99 0 9 0;");
        for (int i = 10; i <= 999; i++) {
            due("11 times", y.tells(0, 0), i);
        }
        due("11 999 at most", y.tells(0, 0), 999);
        y.happens(0, 0);
        due("11 by an event, too", y.seen(0, 0), 999);
        due("11 tells(2, 0)", x.tells(2, 0), BAD);
        due("11 tells(0, 2)", x.tells(0, 2), BAD);
        due("11 to undo", x.now(3), 2);
    }

    // 12
    private static void abdicates() {
        SurprisedMayor x = Check.town("k2;x2;p0 0 0 0;p0 1 0 0;");
        due("12 nobody", x.abdicates(), STATE);
        due("12 nothing was done", x.now(3), 0);
        x.happens(0, 1);
        due("12 who was", x.abdicates(), 1);
        due("12 no mayor", x.now(0), NONE);
        due("12 nobody", x.abdicates(), STATE);
        due("12 his term stays", x.person(1, 2), 1);
        due("12 to undo", x.now(3), 2);
        x.happens(0, 1);
        due("12 a term more behind it", x.person(1, 2), 2);
    }

    // 13
    private static void undo() {
        SurprisedMayor x = Check.town("k2;x3;p0 0 0 0;p0 1 0 0;");
        due("13 none", x.undo(), STATE);
        x.happens(0, 0);
        x.happens(1, 1);
        x.walks(0, 2);
        x.tells(1, 0);
        x.abdicates();
        x.notes(0, 0, 1);
        x.rate(0, 0);
        due("13 abdicates", x.undo(), 4);
        due("13 mayor again", x.now(0), 1);
        due("13 tells", x.undo(), 3);
        due("13 not seen", x.seen(1, 0), 0);
        due("13 walks", x.undo(), 2);
        due("13 at his place", x.person(0, 1), 0);
        due("13 happens", x.undo(), 1);
        due("13 mayor of before", x.now(0), 0);
        due("13 no term", x.person(1, 2), 0);
        due("13 not seen", x.seen(1, 1), 0);
        due("13 happens", x.undo(), 0);
        due("13 no mayor", x.now(0), NONE);
        due("13 no term", x.now(1), 0);
        due("13 not seen", x.seen(0, 0), 0);
        due("13 none", x.undo(), STATE);
        due("13 notes stay", x.count(3), 1);
        due("13 the trace goes on", x.trace(), 1);
        x.walks(0, 1);
        due("13 refused ones are none", x.walks(0, 1), STATE);
        due("13 refused ones are none", x.tells(0, 7), BAD);
        due("13 the walk", x.undo(), 0);
        due("13 at his place", x.person(0, 1), 0);
    }

    private static void undoKnowsTen() {
        SurprisedMayor x = Check.town("k2;x1;p99 0 0 0;");
        for (int i = 1; i <= 23; i++) {
            x.tells(0, 0);
            due("13 known", x.now(3), Math.min(10, i));
        }
        for (int more = 9; more >= 0; more--) {
            due("13 undo", x.undo(), more);
            due("13 seen", x.seen(0, 0), 13 + more);
        }
        due("13 older ones are lost", x.undo(), STATE);
        due("13 seen", x.seen(0, 0), 13);
        x.tells(0, 0);
        due("13 and anew", x.undo(), 0);
        due("13 seen", x.seen(0, 0), 13);
    }

    // 14
    private static void who() {
        SurprisedMayor x = Check.town("k2;x3;p50 0 0 0;p51 0 0 0;p34 1 0 2;p67 1 3 0;p20 2 5 5;");
        due("14 who jumps", x.who(0, 0), 0);
        due("14 kind 0 at 1", x.who(0, 1), 2);
        due("14 kind 1 at 1", x.who(1, 1), 3);
        due("14 at 2", x.who(0, 2), 4);
        due("14 nothing changed", x.now(0), NONE);
        due("14 nothing changed", x.seen(0, 0), 0);
        due("14 nothing to undo", x.now(3), 0);
        SurprisedMayor y = Check.town("k2;x2;p51 0 0 0;p50 1 0 0;");
        due("14 nobody jumps, no mayor", y.who(0, 0), NONE);
        y.happens(0, 1);
        due("14 nobody jumps, the mayor stays", y.who(0, 0), 1);
        for (int far : FAR) {
            due("14 who(" + far + ", 0)", y.who(far, 0), BAD);
            due("14 who(0, " + far + ")", y.who(0, far), BAD);
        }
        due("14 who(2, 0)", y.who(2, 0), BAD);
        due("14 who(0, 2)", y.who(0, 2), BAD);
    }

    private static void duePlan(SurprisedMayor x, int p, int many, int first, int second, int third) {
        due("15 plan(" + p + ", -1)", x.plan(p, -1), many);
        due("15 plan(" + p + ", 0)", x.plan(p, 0), first);
        due("15 plan(" + p + ", 1)", x.plan(p, 1), second);
        due("15 plan(" + p + ", 2)", x.plan(p, 2), third);
    }

    // 15
    private static void plan() {
        SurprisedMayor x = Check.town("k2;x2;p62 0 4 3;p0 1 0 0;p99 1 0 0;p59 1 2 3;");
        duePlan(x, 0, 3, 0, 0, 10);
        duePlan(x, 1, 1, 1, NONE, NONE);
        duePlan(x, 2, NONE, NONE, NONE, NONE);
        SurprisedMayor y = Check.town("k2;x2;p59 1 2 3;");
        duePlan(y, 0, 2, 11, 1, NONE);
        y.happens(1, 1);
        duePlan(y, 0, 1, 1, NONE, NONE);
        y.happens(0, 1);
        duePlan(y, 0, 0, NONE, NONE, NONE);
        due("15 nothing changed", y.now(3), 2);
        SurprisedMayor z = Check.town("k2;x2;p82 0 0 4;p65 0 1 4;");
        duePlan(z, 1, 3, 0, 10, 0);
        // by 59 behind two of kind 0, by 62 behind three, which is one event too many
        duePlan(Check.town("k2;x1;p59 0 4 4;"), 0, 3, 0, 0, 10);
        duePlan(Check.town("k2;x1;p60 0 4 4;"), 0, NONE, NONE, NONE, NONE);
        for (int far : FAR) {
            due("15 plan(" + far + ", 0)", x.plan(far, 0), BAD);
            if (far != -1) {
                due("15 plan(0, " + far + ")", x.plan(0, far), BAD);
            }
        }
        due("15 plan(4, -1)", x.plan(4, -1), BAD);
        due("15 plan(0, 3)", x.plan(0, 3), BAD);
    }

    private static void dueDuel(SurprisedMayor x, int p, int n, int wins, int event) {
        due("16 duel(" + p + ", " + n + ", 0)", x.duel(p, n, 0), wins);
        due("16 duel(" + p + ", " + n + ", 1)", x.duel(p, n, 1), event);
    }

    // 16
    private static void duel() {
        SurprisedMayor x = Check.town("k2;x2;p59 1 0 0;p0 0 0 0;");
        // at first 0 is surprised by 50 alone; behind one event at 1, by 67
        dueDuel(x, 0, 0, 0, NONE);
        dueDuel(x, 0, 1, 0, NONE);
        dueDuel(x, 0, 2, 0, NONE);
        dueDuel(x, 0, 3, 1, 1);
        x.happens(0, 1);
        x.happens(1, 1);
        dueDuel(x, 0, 0, 1, NONE);
        dueDuel(x, 0, 1, 1, 1);
        dueDuel(x, 0, 2, 0, NONE);
        due("16 nothing changed", x.now(3), 2);
        due("16 nothing changed", x.seen(0, 0), 1);
        SurprisedMayor y = Check.town("k2;x2;p1 1 4 0;");
        dueDuel(y, 0, 1, 1, 1);
        dueDuel(y, 0, 2, 1, 1);
        dueDuel(y, 0, 3, 1, 0);
        for (int far : FAR) {
            due("16 duel(" + far + ", 0, 0)", x.duel(far, 0, 0), BAD);
            due("16 duel(0, " + far + ", 0)", x.duel(0, far, 0), BAD);
            due("16 duel(0, 0, " + far + ")", x.duel(0, 0, far), BAD);
        }
        due("16 duel(2, 0, 0)", x.duel(2, 0, 0), BAD);
        due("16 duel(0, 4, 0)", x.duel(0, 4, 0), BAD);
        due("16 duel(0, 0, 2)", x.duel(0, 0, 2), BAD);
    }

    /** Rows of two people at one place, found and answered by trying all. */
    private static void duelOfTwo() {
        SurprisedMayor x = Check.town("k2;x1;p49 0 1 2;p0 0 0 1;");
        dueDuel(x, 0, 1, 0, NONE);
        dueDuel(x, 0, 2, 1, 0);
        dueDuel(x, 0, 3, 0, NONE);
        SurprisedMayor y = Check.town("k2;x1;p39 0 2 4;p21 0 0 1;p56 0 4 4;");
        dueDuel(y, 1, 1, 1, 0);
        dueDuel(y, 1, 2, 1, 10);
        dueDuel(y, 1, 3, 0, NONE);
        SurprisedMayor z = Check.town("k2;x1;p35 0 0 0;p13 0 0 4;");
        z.happens(1, 0);
        dueDuel(z, 0, 0, 1, NONE);
        dueDuel(z, 0, 1, 0, NONE);
        dueDuel(z, 0, 2, 0, NONE);
        dueDuel(z, 0, 3, 1, 0);
    }

    // 17
    private static void stale() {
        SurprisedMayor x = Check.town("k2;x2;p50 0 0 0;p51 0 0 0;");
        due("17 once by 50, then 34", x.stale(0, 0), 1);
        due("17 nobody there", x.stale(0, 1), 0);
        due("17 nothing changed", x.seen(0, 0), 0);
        due("17 nothing changed", x.now(0), NONE);
        x.happens(1, 0);
        // 67, 50 for both; then 100 less 300 by 5
        due("17 twice", x.stale(0, 0), 2);
        due("17 nobody jumps", x.stale(1, 0), 0);
        due("17 just 99", Check.town("k4;p17 0 0 6 5 5;").stale(0, 0), 99);
        due("17 99 are not enough, 100 are", Check.town("k4;p14 0 0 4 4 4;").stale(0, 0), NONE);
        due("17 never", Check.town("k1;p0 0 0;").stale(0, 0), NONE);
        due("17 at once", Check.town("k1;p1 0 0;").stale(0, 0), 0);
        for (int far : FAR) {
            due("17 stale(" + far + ", 0)", x.stale(far, 0), BAD);
            due("17 stale(0, " + far + ")", x.stale(0, far), BAD);
        }
        due("17 stale(2, 0)", x.stale(2, 0), BAD);
        due("17 stale(0, 2)", x.stale(0, 2), BAD);
    }

    private static void dueOdds(SurprisedMayor x, int p, int place, int n, int upper, int lower) {
        due("18 odds(" + p + ", " + place + ", " + n + ", 0)", x.odds(p, place, n, 0), upper);
        due("18 odds(" + p + ", " + place + ", " + n + ", 1)", x.odds(p, place, n, 1), lower);
    }

    // 18
    private static void odds() {
        SurprisedMayor x = Check.town("k2;x3;p60 0 0 2;p0 1 0 0;");
        // person 0 jumps by kind 0 at first, and is alone there: all but rows of kind 1 only
        dueOdds(x, 0, 0, 0, 0, 1);
        dueOdds(x, 0, 0, 1, 1, 2);
        dueOdds(x, 0, 0, 2, 3, 4);
        dueOdds(x, 0, 0, 3, 7, 8);
        dueOdds(x, 0, 0, 4, 15, 16);
        dueOdds(x, 0, 1, 4, 0, 1);
        dueOdds(x, 1, 1, 1, 1, 1);
        dueOdds(x, 1, 2, 3, 0, 1);
        due("18 nothing changed", x.now(3), 0);
        x.happens(0, 0);
        dueOdds(x, 0, 0, 0, 1, 1);
        dueOdds(x, 0, 2, 4, 1, 1);
        dueOdds(x, 0, 1, 1, 0, 1);
        // 4 kinds, 256 rows: in least terms; only rows of kind 0 alone never make him jump
        SurprisedMayor y = Check.town("k4;x1;p60 0 9 0 0 0;");
        dueOdds(y, 0, 0, 1, 3, 4);
        dueOdds(y, 0, 0, 4, 255, 256);
        SurprisedMayor z = Check.town("k4;x1;p60 0 9 9 0 0;");
        dueOdds(z, 0, 0, 1, 1, 2);
        for (int far : FAR) {
            due("18 odds(" + far + ", 0, 0, 0)", x.odds(far, 0, 0, 0), BAD);
            due("18 odds(0, " + far + ", 0, 0)", x.odds(0, far, 0, 0), BAD);
            due("18 odds(0, 0, " + far + ", 0)", x.odds(0, 0, far, 0), BAD);
            due("18 odds(0, 0, 0, " + far + ")", x.odds(0, 0, 0, far), BAD);
        }
        due("18 odds(2, 0, 0, 0)", x.odds(2, 0, 0, 0), BAD);
        due("18 odds(0, 3, 0, 0)", x.odds(0, 3, 0, 0), BAD);
        due("18 odds(0, 0, 5, 0)", x.odds(0, 0, 5, 0), BAD);
        due("18 odds(0, 0, 0, 2)", x.odds(0, 0, 0, 2), BAD);
    }

    // 19
    private static void notes() {
        SurprisedMayor x = Check.town("k2;x1;p50 0 0 2;p50 0 0 0;");
        for (int far : FAR) {
            due("19 notes(" + far + ", 0, 0)", x.notes(far, 0, 0), BAD);
            due("19 notes(0, " + far + ", 0)", x.notes(0, far, 0), BAD);
            due("19 notes(0, 0, " + far + ")", x.notes(0, 0, far), BAD);
        }
        due("19 notes(2, 0, 0)", x.notes(2, 0, 0), BAD);
        due("19 notes(0, 2, 0)", x.notes(0, 2, 0), BAD);
        due("19 notes(0, 0, 2)", x.notes(0, 0, 2), BAD);
        for (int i = 1; i <= 6; i++) {
            due("19 note " + i, x.notes(i % 2, 0, 1), i);
        }
        due("19 full", x.notes(0, 0, 1), FULL);
        due("19 bad ahead of full", x.notes(2, 0, 1), BAD);
        due("19 noted", x.count(3), 6);
        due("19 nothing to undo", x.now(3), 0);
    }

    // 20
    private static void forget() {
        SurprisedMayor x = Check.town("k2;x1;p50 0 0 2;");
        due("20 nothing", x.forget(), 0);
        x.notes(0, 0, 1);
        x.notes(0, 0, 0);
        due("20 none can be", x.nerves(0, 0), 0);
        due("20 two", x.forget(), 2);
        due("20 nothing", x.forget(), 0);
        due("20 all can be", x.nerves(0, 0), 100);
        due("20 room again", x.notes(0, 0, 1), 1);
        due("20 only the new one counts", x.nerves(0, 0), 76);
    }

    private static void dueNerves(SurprisedMayor x, int p, int many, int least, int greatest) {
        due("21 nerves(" + p + ", 0)", x.nerves(p, 0), many);
        due("21 nerves(" + p + ", 1)", x.nerves(p, 1), least);
        due("21 nerves(" + p + ", 2)", x.nerves(p, 2), greatest);
    }

    // 21
    private static void nerves() {
        SurprisedMayor x = Check.town("k2;x1;p50 0 0 2;p50 0 0 0;");
        dueNerves(x, 0, 100, 0, 99);
        x.notes(0, 0, 1);
        dueNerves(x, 0, 76, 0, 75);
        x.notes(0, 1, 0);
        dueNerves(x, 0, 50, 26, 75);
        dueNerves(x, 1, 100, 0, 99);
        x.notes(1, 0, 0);
        dueNerves(x, 0, 50, 26, 75);
        dueNerves(x, 1, 49, 51, 99);
        // by surprise as it is when it is asked: 80, 20 behind this
        x.tells(0, 1);
        dueNerves(x, 0, 60, 21, 80);
        x.undo();
        dueNerves(x, 0, 50, 26, 75);
        x.notes(0, 0, 1);
        dueNerves(x, 0, 50, 26, 75);
        x.notes(0, 1, 1);
        dueNerves(x, 0, 0, NONE, NONE);
        SurprisedMayor y = Check.town("k1;x1;p50 0 0;");
        y.notes(0, 0, 0);
        dueNerves(y, 0, 99, 1, 99);
        y.forget();
        y.notes(0, 0, 1);
        dueNerves(y, 0, 1, 0, 0);
        SurprisedMayor z = Check.town("k2;x1;p50 0 0 9;");
        for (int i = 0; i < 90; i++) {
            z.tells(0, 1);
        }
        z.notes(0, 0, 1);
        dueNerves(z, 0, 100, 0, 99);
        z.notes(0, 0, 0);
        dueNerves(z, 0, 0, NONE, NONE);
        for (int far : FAR) {
            due("21 nerves(" + far + ", 0)", x.nerves(far, 0), BAD);
            due("21 nerves(0, " + far + ")", x.nerves(0, far), BAD);
        }
        due("21 nerves(2, 0)", x.nerves(2, 0), BAD);
        due("21 nerves(0, 3)", x.nerves(0, 3), BAD);
    }

    // 22
    private static void test() {
        SurprisedMayor x = Check.town("k3;x1;p0 0 1 2 5;p0 0 0 0 0;");
        // surprises 82, 73, 46 cut 0 .. 99 into parts of 83, 74, 53 at most
        due("22 the evenest", x.test(0), 2);
        due("22 of several the lowest", x.test(1), 0);
        x.notes(0, 2, 0);
        // 47 .. 99: 36, 27, 53
        due("22 the evenest", x.test(0), 1);
        x.forget();
        x.notes(0, 2, 1);
        due("22 none cuts 0 .. 46", x.test(0), 0);
        x.notes(0, 2, 0);
        due("22 none can be", x.test(0), NONE);
        due("22 the other's", x.test(1), 0);
        SurprisedMayor y = Check.town("k1;x1;p0 0 0;");
        due("22 one kind", y.test(0), 0);
        y.notes(0, 0, 1);
        due("22 one can be", y.test(0), NONE);
        // surprises 75, 77, 75, 75
        SurprisedMayor z = Check.town("k4;x1;p0 0 9 8 9 9;");
        z.notes(0, 0, 0);
        z.notes(0, 1, 1);
        due("22 76 and 77 can be", z.nerves(0, 0), 2);
        due("22 two can be, none parts them", z.test(0), 0);
        SurprisedMayor t = Check.town("k4;x1;p0 0 8 9 9 9;p0 0 7 8 0 0;p0 0 5 2 1 9;");
        t.notes(0, 1, 0);
        t.notes(0, 0, 1);
        due("22 all jump or none do: the lowest", t.test(0), 0);
        // surprises 58, 53, 95, 95
        due("22 59 and 41, 54 and 46", t.test(1), 1);
        // 72, 86, 91, 53: none of 92 .. 99 would jump by any
        t.notes(2, 2, 0);
        due("22 none jumps by any: the lowest", t.test(2), 0);
        due("22 53 by 54, 48 by 51", Check.town("k2;p0 0 7 8;").test(0), 1);
        for (int far : FAR) {
            due("22 test(" + far + ")", x.test(far), BAD);
        }
        due("22 test(2)", x.test(2), BAD);
    }

    // 23
    private static void rate() {
        SurprisedMayor x = Check.town("k2;x4;p20 0 0 0;p30 3 4 5;p10 1 9 9;");
        x.happens(0, 0);
        x.happens(0, 3);
        x.happens(0, 0);
        x.happens(1, 3);
        due("23 the mayor of now", x.now(0), 1);
        due("23 person 0 has had two", x.person(0, 2), 2);
        due("23 ONE", x.rate(0, 0), 20);
        due("23 GIRL", x.rate(1, 0), 22);
        due("23 COOL", x.rate(2, 0), 18);
        due("23 CHILD", x.rate(3, 0), 44);
        due("23 SAGE", x.rate(4, 0), 18);
        due("23 TWIN", x.rate(5, 0), 20);
        due("23 ONE of 1", x.rate(0, 1), 30);
        due("23 GIRL of 1", x.rate(1, 1), 32);
        due("23 COOL of 1", x.rate(2, 1), 19);
        due("23 CHILD of 1", x.rate(3, 1), 64);
        due("23 SAGE of 1", x.rate(4, 1), 20);
        due("23 TWIN of 1", x.rate(5, 1), 33);
        due("23 below 0", x.rate(2, 2), -8);
        due("23 below 0", x.rate(4, 2), -6);
        long trace = x.trace();
        for (int far : FAR) {
            due("23 rate(" + far + ", 0)", x.rate(far, 0), NO);
            due("23 rate(0, " + far + ")", x.rate(0, far), NO);
        }
        due("23 rate(6, 0)", x.rate(6, 0), NO);
        due("23 rate(0, 3)", x.rate(0, 3), NO);
        due("23 refused: no trace", x.trace(), trace);
    }

    // 24
    private static void keep() {
        SurprisedMayor x = Check.town("k2;x3;p0 0 0 0;p0 1 0 0;p0 2 0 0;");
        due("24 nobody yet", x.keep(0), 0);
        x.happens(0, 0);
        x.happens(0, 1);
        x.happens(0, 0);
        due("24 two had three terms", x.keep(1), 2);
        due("24 nothing changed", x.now(3), 3);
        for (int far : FAR) {
            due("24 keep(" + far + ")", x.keep(far), BAD);
        }
        due("24 keep(2)", x.keep(2), BAD);
        x.happens(0, 2);
        due("24 kept anew", x.keep(1), 3);
        due("24 as kept last", x.back(1), 3);
        due("24 the other is as it was", x.back(0), 0);
    }

    // 25
    private static void back() {
        SurprisedMayor x = Check.town("k2;x3;p0 0 0 0;p0 1 0 0;");
        due("25 none was kept", x.back(0), STATE);
        x.happens(0, 1);
        x.keep(1);
        due("25 the other was not kept", x.back(0), STATE);
        due("25 refused: what may be undone stays", x.now(3), 1);
        x.happens(0, 0);
        x.walks(0, 2);
        x.tells(1, 1);
        x.abdicates();
        x.notes(0, 0, 1);
        x.rate(0, 0);
        Check.type(x, "k");
        due("25 back", x.back(1), 1);
        due("25 mayor", x.now(0), 1);
        due("25 terms", x.person(0, 2), 0);
        due("25 terms", x.person(1, 2), 1);
        due("25 place", x.person(0, 1), 0);
        due("25 seen", x.seen(0, 0), 0);
        due("25 seen", x.seen(1, 0), 1);
        due("25 seen", x.seen(1, 1), 0);
        due("25 nothing can be undone", x.now(3), 0);
        due("25 undo", x.undo(), STATE);
        due("25 nothing else: notes", x.count(3), 1);
        due("25 nothing else: text", x.count(4), 1);
        due("25 the trace goes on", x.trace(), 1);
        x.happens(0, 0);
        due("25 once more", x.back(1), 1);
        due("25 an image is not touched by what comes", x.seen(0, 0), 0);
        for (int far : FAR) {
            due("25 back(" + far + ")", x.back(far), BAD);
        }
        due("25 back(2)", x.back(2), BAD);
    }

    // 26
    private static void count() {
        SurprisedMayor x = Check.town("k4;x3;p0 0 0 0 0 0;p0 2 0 0 0 0;");
        x.notes(0, 0, 1);
        Check.type(x, "abcde");
        due("26 kinds", x.count(0), 4);
        due("26 places", x.count(1), 3);
        due("26 people", x.count(2), 2);
        due("26 noted", x.count(3), 1);
        due("26 letters", x.count(4), 5);
        for (int far : FAR) {
            due("26 count(" + far + ")", x.count(far), BAD);
        }
        due("26 count(5)", x.count(5), BAD);
    }

    // 27
    private static void trace() {
        long[] grown = {1, 11, 101, 1011, 10101, 100001};
        for (int kind = 0; kind < 6; kind++) {
            SurprisedMayor x = Check.town("p20 0 0 0 0;");
            x.rate(kind, 0);
            due("27 trace of kind " + kind, x.trace(), grown[kind]);
            x.rate(kind, 0);
            due("27 twice", x.trace(), 2 * grown[kind]);
        }
        SurprisedMayor x = Check.town("p20 0 0 0 0;");
        due("27 at first", x.trace(), 0);
        for (int kind = 0; kind < 6; kind++) {
            x.rate(kind, 0);
        }
        due("27 all of them", x.trace(), 111226);
        x.happens(0, 0);
        x.undo();
        x.keep(0);
        x.back(0);
        x.town();
        due("27 it goes on", x.trace(), 111226);
    }
}
