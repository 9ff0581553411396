/** The edges of THE TEXT and of what it tells: the document's first part, promises 1 to 4 and 26. */
public final class EdgesOfTheTextTest {
    private static final int BAD = -1, STATE = -2, FULL = -3, NONE = -9;
    private static final String ONE = "p0 0 0 0 0;";
    private static final Check CHECK = new Check();

    public static void main(String[] args) {
        kindsAreOneToFour();
        kindsAreThreeAtFirst();
        placesAreOneToFour();
        placesAreTwoAtFirst();
        placeOfOneIsBelowThePlacesTold();
        placeOfOneIsBelowTwoIfNoneAreTold();
        peopleAreFiveAtMost();
        nerveIsZeroToNinetyNine();
        seenAtFirstIsZeroToNine();
        seenAreAsManyAsKindsTold();
        seenAreThreeIfNoKindsAreTold();
        lettersAreZeroTo255();
        textHas150Letters();
        fullTextIsReadToItsEnd();
        refusedLettersAreNotRead();
        noLetters();
        nothingButBlanks();
        blanksAheadBetweenBehind();
        blanksOnlyBetweenNumbers();
        onlyThirtyTwoIsBlank();
        itemsEndBySemicolon();
        itemsMayBeNone();
        kindsOnce();
        placesOnce();
        kindsAndPlacesInAnyOrder();
        kindsAndPlacesAheadOfPeople();
        tokensThatCantStandThere();
        noSixthPerson();
        oneNumberTooMany();
        oneNumberTooFew();
        numbersAbove99();
        numbersWithZeroAhead();
        otherLetters();
        faultOfANumberIsAtItsFirstLetter();
        textEndsTooEarly();
        firstOfSeveralFaults();
        answersOfFaults();
        faultChangesNothing();
        faultyTextCanBeToldOn();
        faultLeavesNothingForTheNextText();
        readTextIsEmpty();
        readAnewByNoLetters();
        readAnewByPeopleAlone();
        clearLeavesTheTown();
        clearOfNothingAndOfAll();
        newObjectHasNothing();
        CHECK.end();
    }

    private static void due(String call, long got, long want) {
        CHECK.due(call, got, want);
    }

    private static void items(String text, int many) {
        due("4 town() of '" + text + "'", Check.read(text), many);
    }

    private static void fault(String text, int place) {
        due("4 town() of '" + text + "'", Check.read(text), -10 - place);
    }

    private static String rows(String text, int times) {
        return text.repeat(times);
    }

    // KINDS (1 .. 4
    private static void kindsAreOneToFour() {
        fault("k0;", 1);
        for (int n = 1; n <= 4; n++) {
            SurprisedMayor x = Check.town("k" + n + ";");
            due("26 kinds told", x.count(0), n);
            due("9 the lowest kind", x.happens(0, 0), 0);
            due("9 the highest kind", x.happens(n - 1, 0), 0);
            due("9 one above it", x.happens(n, 0), BAD);
            due("9 one below all", x.happens(-1, 0), BAD);
        }
        fault("k5;", 1);
        fault("k99;", 1);
    }

    // .. 3 at first)
    private static void kindsAreThreeAtFirst() {
        due("26 kinds of a new object", new SurprisedMayor().count(0), 3);
        due("26 kinds not told", Check.town("x4;p0 0 0 0 0;").count(0), 3);
        SurprisedMayor x = Check.town("k1;");
        x.town();
        due("26 kinds not told anew", x.count(0), 3);
    }

    // PLACES (1 .. 4
    private static void placesAreOneToFour() {
        fault("x0;", 1);
        for (int n = 1; n <= 4; n++) {
            SurprisedMayor x = Check.town("x" + n + ";");
            due("26 places told", x.count(1), n);
            due("9 the lowest place", x.happens(0, 0), 0);
            due("9 the highest place", x.happens(0, n - 1), 0);
            due("9 one above it", x.happens(0, n), BAD);
            due("9 one below all", x.happens(0, -1), BAD);
        }
        fault("x5;", 1);
        fault("x99;", 1);
    }

    // .. 2 at first)
    private static void placesAreTwoAtFirst() {
        due("26 places of a new object", new SurprisedMayor().count(1), 2);
        due("26 places not told", Check.town("k4;p0 0 0 0 0 0;").count(1), 2);
        SurprisedMayor x = Check.town("x1;");
        x.town();
        due("26 places not told anew", x.count(1), 2);
    }

    private static void placeOfOneIsBelowThePlacesTold() {
        for (int n = 1; n <= 4; n++) {
            due("5 place", Check.town("x" + n + ";p0 0 0 0 0;").person(0, 1), 0);
            due("5 place", Check.town("x" + n + ";p0 " + (n - 1) + " 0 0 0;").person(0, 1), n - 1);
            fault("x" + n + ";p0 " + n + " 0 0 0;", 6);
        }
    }

    private static void placeOfOneIsBelowTwoIfNoneAreTold() {
        due("5 place", Check.town("p0 0 0 0 0;").person(0, 1), 0);
        due("5 place", Check.town("p0 1 0 0 0;").person(0, 1), 1);
        fault("p0 2 0 0 0;", 3);
    }

    // PEOPLE 0 .. (5 at most)
    private static void peopleAreFiveAtMost() {
        for (int n = 0; n <= 5; n++) {
            SurprisedMayor x = Check.town(rows(ONE, n));
            due("26 people", x.count(2), n);
            due("5 one above the highest", x.person(n, 0), BAD);
            due("5 one below the lowest", x.person(-1, 0), BAD);
            if (n > 0) {
                due("5 the lowest", x.person(0, 0), 0);
                due("5 the highest", x.person(n - 1, 0), 0);
            }
        }
        fault(rows(ONE, 6), 55);
    }

    // NERVE (0 .. 99)
    private static void nerveIsZeroToNinetyNine() {
        for (int nerve = 0; nerve <= 99; nerve++) {
            due("5 nerve", Check.town("p" + nerve + " 0 0 0 0;").person(0, 0), nerve);
        }
        fault("p100 0 0 0 0;", 1);
        fault("p-1 0 0 0 0;", 1);
    }

    // how often each has SEEN each KIND (0 .. 9 at first)
    private static void seenAtFirstIsZeroToNine() {
        for (int kind = 0; kind < 4; kind++) {
            for (int times = 0; times <= 9; times++) {
                SurprisedMayor x = Check.town("k4;p0 0" + seenRow(4, kind, times) + ";");
                due("6 seen(0, " + kind + ")", x.seen(0, kind), times);
                due("5 seen together", x.person(0, 3), times);
            }
            fault("k4;p0 0" + seenRow(4, kind, 10) + ";", 8 + 2 * kind);
            fault("k4;p0 0" + seenRow(4, kind, 99) + ";", 8 + 2 * kind);
        }
    }

    private static String seenRow(int kinds, int kind, int times) {
        StringBuilder b = new StringBuilder();
        for (int i = 0; i < kinds; i++) {
            b.append(' ').append(i == kind ? times : 0);
        }
        return b.toString();
    }

    // as many numbers as there are KINDS
    private static void seenAreAsManyAsKindsTold() {
        for (int n = 1; n <= 4; n++) {
            String head = "k" + n + ";p0 0";
            items(head + rows(" 1", n) + ";", 2);
            fault(head + rows(" 1", n - 1) + ";", head.length() + 2 * (n - 1));
            fault(head + rows(" 1", n + 1) + ";", head.length() + 2 * n + 1);
        }
    }

    private static void seenAreThreeIfNoKindsAreTold() {
        items("p0 0 1 1 1;", 1);
        fault("p0 0 1 1;", 8);
        fault("p0 0 1 1 1 1;", 11);
    }

    // A letter (0 .. 255)
    private static void lettersAreZeroTo255() {
        SurprisedMayor x = new SurprisedMayor();
        due("2 type(-1)", x.type(-1), BAD);
        due("2 type(0)", x.type(0), 1);
        due("2 type(255)", x.type(255), 2);
        due("2 type(256)", x.type(256), BAD);
        due("2 a letter by its lowest bits only", x.type(256 + 'k'), BAD);
        due("2 type(the least)", x.type(Integer.MIN_VALUE), BAD);
        due("2 type(the greatest)", x.type(Integer.MAX_VALUE), BAD);
        due("26 letters", x.count(4), 2);
    }

    // a text (150 letters at most)
    private static void textHas150Letters() {
        SurprisedMayor x = new SurprisedMayor();
        for (int i = 1; i <= 150; i++) {
            due("2 letter " + i, x.type(' '), i);
            due("26 letters", x.count(4), i);
        }
        due("2 one more", x.type(' '), FULL);
        due("2 and again", x.type(' '), FULL);
        due("2 where both fit, BAD is first", x.type(-1), BAD);
        due("2 where both fit, BAD is first", x.type(256), BAD);
        due("26 letters", x.count(4), 150);
    }

    private static void fullTextIsReadToItsEnd() {
        items(rows(" ", 139) + ONE, 1);
        items(rows(" ", 147) + "k2;", 1);
        fault(rows(" ", 148) + "k2", 150);
        fault(rows(" ", 149) + "a", 149);
        fault(rows(" ", 149) + ";", 149);
        SurprisedMayor x = Check.town(rows(" ", 131) + "k2;x3;p99 2 9 8 ;  ");
        due("4 nerve at the end of a full text", x.person(0, 0), 99);
        due("4 seen at the end of a full text", x.seen(0, 1), 8);
    }

    private static void refusedLettersAreNotRead() {
        SurprisedMayor x = new SurprisedMayor();
        Check.type(x, "k2" + rows(" ", 148));
        due("2 no room for its end", x.type(';'), FULL);
        due("4 it has no end", x.town(), -160);
        x.clear();
        x.type('k');
        x.type(256 + '1');
        x.type('2');
        x.type(-1);
        x.type(';');
        due("4 as if refused letters had not come", x.town(), 1);
        due("26 kinds", x.count(0), 2);
    }

    private static void noLetters() {
        SurprisedMayor x = new SurprisedMayor();
        due("26 letters", x.count(4), 0);
        due("3 clear of nothing", x.clear(), 0);
        due("4 town of nothing", x.town(), 0);
        due("4 and again", x.town(), 0);
        due("26 letters", x.count(4), 0);
    }

    private static void nothingButBlanks() {
        items(" ", 0);
        items(rows(" ", 149), 0);
        items(rows(" ", 150), 0);
    }

    // blanks, any number, ahead of, between, behind TOKENS
    private static void blanksAheadBetweenBehind() {
        for (int many = 1; many <= 8; many++) {
            String gap = rows(" ", many);
            StringBuilder b = new StringBuilder(gap);
            for (String token : new String[] {"k", "1", ";", "x", "3", ";", "p", "42", "2", "7", ";"}) {
                b.append(token).append(gap);
            }
            SurprisedMayor x = Check.town(b.toString());
            due("26 kinds", x.count(0), 1);
            due("26 places", x.count(1), 3);
            due("5 nerve", x.person(0, 0), 42);
            due("5 place", x.person(0, 1), 2);
            due("6 seen", x.seen(0, 0), 7);
        }
    }

    // needed only between two NUMBERS
    private static void blanksOnlyBetweenNumbers() {
        items("k4;x4;p99 3 9 9 9 9;p0 0 0 0 0 0;", 4);
        SurprisedMayor x = Check.town("k1;p12 0 3;");
        due("5 nerve", x.person(0, 0), 12);
        // without a blank 1 and 2 are one number, so that one is missing at the end
        fault("k1;p12 0;", 8);
        fault("k1;p12 03;", 7);
    }

    private static void onlyThirtyTwoIsBlank() {
        for (int letter = 0; letter < 256; letter++) {
            String c = String.valueOf((char) letter);
            if (letter == ' ') {
                items(c, 0);
                items("k" + c + "2;", 1);
                items("k2" + c + ";", 1);
                items("k2;" + c, 1);
            } else {
                boolean digit = letter >= '0' && letter <= '9';
                boolean opens = letter == 'k' || letter == 'x' || letter == 'p';
                fault(c, opens ? 1 : 0);
                fault("k" + c + "2;", 1);
                fault("k2" + c + ";", digit ? 1 : letter == ';' ? 3 : 2);
                fault("k2;" + c, opens && letter != 'k' ? 4 : 3);
            }
        }
    }

    // ITEMS, each ended by ;
    private static void itemsEndBySemicolon() {
        fault("k2", 2);
        fault("k2x2;", 2);
        fault("k2 p0 0 0 0;", 3);
        fault("p0 0 0 0 0p0 0 0 0 0;", 10);
        fault("k2;;", 3);
        fault("k2:", 2);
        items("k2;", 1);
    }

    // ITEMS (none, too)
    private static void itemsMayBeNone() {
        items("", 0);
        items("k2;", 1);
        items("k2;x2;", 2);
        items(rows(ONE, 5), 5);
        items("x2;k3;" + rows(ONE, 5), 7);
    }

    // once at most each
    private static void kindsOnce() {
        fault("k2;k2;", 3);
        fault("k2;x2;k2;", 6);
        fault("k2; k", 4);
    }

    private static void placesOnce() {
        fault("x2;x2;", 3);
        fault("x2;k2;x2;", 6);
        fault("x2; x", 4);
    }

    private static void kindsAndPlacesInAnyOrder() {
        for (String text : new String[] {"k4;x1;", "x1;k4;"}) {
            SurprisedMayor x = Check.town(text);
            due("26 kinds of " + text, x.count(0), 4);
            due("26 places of " + text, x.count(1), 1);
        }
    }

    // both ahead of all PEOPLE
    private static void kindsAndPlacesAheadOfPeople() {
        fault(ONE + "k3;", 11);
        fault(ONE + "x2;", 11);
        fault("k3;" + ONE + "x2;", 14);
        fault("x2;" + ONE + "k3;", 14);
        fault(rows(ONE, 5) + "k", 55);
        fault(rows(ONE, 5) + "x", 55);
    }

    /** What may follow each beginning; every other token can't stand there. */
    private static void tokensThatCantStandThere() {
        String[][] rows = {
            {"", "kxp"}, {"k", "n"}, {"x", "n"}, {"k2", ";"}, {"x2", ";"}, {"k2;", "xp"}, {"x2;", "kp"}, {"k2;x2;", "p"},
            {"p", "n"}, {"p0", "n"}, {"p0 0", "n"}, {"p0 0 0", "n"}, {"p0 0 0 0", "n"}, {"p0 0 0 0 0", ";"},
            {ONE, "p"}, {rows(ONE, 4), "p"}, {rows(ONE, 5), ""},
        };
        for (String[] row : rows) {
            String head = row[0] + " ";
            for (String token : new String[] {"k", "x", "p", "1", ";", "a", "100", "01", "00"}) {
                String sort = token.equals("1") ? "n" : token;
                if (row[1].contains(sort)) {
                    boolean ends = token.equals(";");
                    due("4 town() of '" + head + token + "'", Check.read(head + token),
                            ends ? 1 : -10 - head.length() - token.length());
                } else {
                    fault(head + token, head.length());
                    fault(head + token + ";", head.length());
                }
            }
        }
    }

    // a sixth p
    private static void noSixthPerson() {
        fault(rows(ONE, 5) + "p", 55);
        fault(rows(ONE, 5) + "  p0 0 0 0 0;", 57);
        fault(rows(ONE, 5) + "p100", 55);
        fault("k2;" + rows("p0 0 0 0;", 6), 48);
    }

    // one too many
    private static void oneNumberTooMany() {
        fault("k2 2;", 3);
        fault("x2 2;", 3);
        fault("p0 0 0 0 0 0;", 11);
        fault("p0 0 0 0 0   99", 13);
    }

    // or too few
    private static void oneNumberTooFew() {
        fault("k;", 1);
        fault("x ;", 2);
        fault("p;", 1);
        fault("p0;", 2);
        fault("p0 0;", 4);
        fault("p0 0 0;", 6);
        fault("p0 0 0 0;", 8);
        fault("p0 0 0 0 p", 9);
    }

    // a NUMBER above 99
    private static void numbersAbove99() {
        String long140 = "1" + rows("0", 139);
        for (String number : new String[] {"100", "101", "999", "1000", "4294967296", "4294967298",
            "18446744073709551617", long140}) {
            fault("k" + number + ";", 1);
            fault("x " + number, 2);
            fault("p" + number + " 0", 1);
            fault("k2 " + number, 3);
            fault(number, 0);
            fault("k2;" + number, 3);
        }
        items("p99 0 0 0 0;", 1);
    }

    // or with a 0 ahead of others
    private static void numbersWithZeroAhead() {
        for (String number : new String[] {"00", "01", "02", "09", "000", "010", "0000000002"}) {
            fault("k" + number + ";", 1);
            fault("x" + number + ";", 1);
            fault("p" + number + " 0 0 0 0;", 1);
            fault("p0 " + number + " 0 0 0;", 3);
            fault("p0 0 0 0 " + number + ";", 9);
        }
        items("p0 0 0 0 0;", 1);
        items("p10 0 0 0 0;", 1);
    }

    // any other letter
    private static void otherLetters() {
        for (String c : new String[] {"K", "X", "P", "a", "j", "l", "-", "+", ".", ":", ",", "/", "\n", "\t", "" + (char) 0,
            "" + (char) 31, "" + (char) 33, "" + (char) 127, "" + (char) 128, "" + (char) 160, "" + (char) 255}) {
            fault(c, 0);
            fault("  " + c + "k2;", 2);
            fault("k" + c, 1);
            fault("k2" + c, 2);
            fault("k2;" + c, 3);
            fault("p1" + c + " 0 0 0 0;", 2);
            fault(ONE + c, 11);
        }
    }

    private static void faultOfANumberIsAtItsFirstLetter() {
        fault("k  10 ;", 3);
        fault("x  99 ;", 3);
        fault("p  100 0 0 0 0;", 3);
        fault("p 5  12 0 0 0;", 5);
        fault("p 5  1  10 0 0;", 8);
        fault("k2  345;", 4);
    }

    // the text's length, if it ends too early
    private static void textEndsTooEarly() {
        String whole = " k2 ; x 3;p99 2 9 9 ;";
        int items = 0;
        boolean between = true;
        for (int n = 0; n <= whole.length(); n++) {
            String part = whole.substring(0, n);
            char last = n == 0 ? ' ' : part.charAt(n - 1);
            if (last == ';') {
                items++;
                between = true;
            } else if (last != ' ') {
                between = false;
            }
            due("4 town() of '" + part + "'", Check.read(part), between ? items : -10 - n);
        }
        fault("k" + rows(" ", 149), 150);
        fault("p0 0 0 0 0" + rows(" ", 20), 30);
    }

    private static void firstOfSeveralFaults() {
        fault("k5;a", 1);
        fault("a k5;", 0);
        fault("k2;k2;x9;", 3);
        fault("x1;p0 1 10 100;", 6);
        fault("p0 0 0 0 0;x2;k2;", 11);
        fault("k2;p0 0 0", 9);
    }

    // -10 less FAULT
    private static void answersOfFaults() {
        due("4 fault 0", Check.read("?"), -10);
        due("4 fault 1", Check.read("k"), -11);
        due("4 fault 149", Check.read(rows(" ", 149) + "?"), -159);
        due("4 fault 150", Check.read(rows(" ", 149) + "k"), -160);
    }

    private static SurprisedMayor lived() {
        SurprisedMayor x = Check.town("k2;x3;p50 1 0 0;p99 2 3 4;");
        x.happens(0, 1);
        x.keep(0);
        x.tells(1, 0);
        x.keep(1);
        x.walks(1, 0);
        x.notes(1, 1, 0);
        x.rate(3, 0);
        return x;
    }

    // nothing changes (THE TEXT stays, too)
    private static void faultChangesNothing() {
        for (String text : new String[] {"?", "k4;x4;p1 3 0 0 0 0;?", "k", "k1;x1;" + rows("p1 0 0;", 6), "p1 1 1 1 10;"}) {
            SurprisedMayor x = lived();
            SurprisedMayor y = lived();
            Check.type(x, text);
            Check.type(y, text);
            int answer = x.town();
            CHECK.holds("4 a fault", answer <= -10);
            due("4 the same fault, the text is as it was", x.town(), answer);
            CHECK.same("4 nothing changed by town() of '" + text + "'", Look.through(x), Look.through(y));
        }
    }

    // THE TEXT stays, too: letters that come behind a FAULT are behind those that came ahead of it
    private static void faultyTextCanBeToldOn() {
        SurprisedMayor x = new SurprisedMayor();
        Check.type(x, "k2;x3;p9 2 1");
        due("4 it ends too early", x.town(), -22);
        due("2 one more letter", x.type(' '), 13);
        due("4 it still does", x.town(), -23);
        Check.type(x, "4;");
        due("4 now it does not", x.town(), 3);
        due("26 kinds", x.count(0), 2);
        due("26 places", x.count(1), 3);
        due("26 one of the people", x.count(2), 1);
        due("6 seen", x.seen(0, 1), 4);
        due("26 the text is empty", x.count(4), 0);
    }

    private static void faultLeavesNothingForTheNextText() {
        SurprisedMayor x = new SurprisedMayor();
        Check.type(x, "k4;x4;p1 3 9 9 9 9;p1 3 9 9 9 9;?");
        due("4 fault", x.town(), -42);
        due("3 clear", x.clear(), 33);
        Check.type(x, "p7 1 1 2 3;");
        due("4 the next text", x.town(), 1);
        due("26 kinds as at first", x.count(0), 3);
        due("26 places as at first", x.count(1), 2);
        due("26 one of the people", x.count(2), 1);
        due("5 seen together", x.person(0, 3), 6);
        Check.type(x, "k4;x4;?");
        x.town();
        x.clear();
        Check.type(x, "k1;x1;");
        due("4 k and x are not told again", x.town(), 2);
    }

    // and is empty then
    private static void readTextIsEmpty() {
        SurprisedMayor x = new SurprisedMayor();
        Check.type(x, "k2;" + rows(" ", 147));
        due("2 full", x.type(' '), FULL);
        due("4 town", x.town(), 1);
        due("26 letters", x.count(4), 0);
        due("3 clear", x.clear(), 0);
        due("2 the first letter again", x.type(' '), 1);
        due("4 no items behind it", x.town(), 0);
        due("26 kinds as at first", x.count(0), 3);
    }

    // Read anew: as told (what is not told as at first), nothing NOTED, IMAGES are gone, nothing can be UNDONE
    private static void readAnewByNoLetters() {
        SurprisedMayor x = lived();
        long trace = x.trace();
        due("4 town", x.town(), 0);
        due("26 kinds", x.count(0), 3);
        due("26 places", x.count(1), 2);
        due("26 people", x.count(2), 0);
        due("26 noted", x.count(3), 0);
        due("8 mayor", x.now(0), NONE);
        due("8 terms", x.now(1), 0);
        due("8 most", x.now(2), -1);
        due("8 undone", x.now(3), 0);
        due("13 undo", x.undo(), STATE);
        due("25 image 0", x.back(0), STATE);
        due("25 image 1", x.back(1), STATE);
        due("27 the trace goes on", x.trace(), trace);
    }

    private static void readAnewByPeopleAlone() {
        SurprisedMayor x = lived();
        Check.type(x, "p9 1 0 0 0;p8 0 1 2 3;");
        due("4 town", x.town(), 2);
        SurprisedMayor y = Check.town("p9 1 0 0 0;p8 0 1 2 3;");
        due("27 the trace goes on", x.trace(), 1011);
        y.rate(3, 0);
        CHECK.same("4 as a new object that is told the same", Look.through(x), Look.through(y));
    }

    private static void clearLeavesTheTown() {
        SurprisedMayor x = lived();
        SurprisedMayor y = lived();
        Check.type(x, "k1;");
        due("3 clear", x.clear(), 3);
        CHECK.same("3 nothing but the text", Look.through(x), Look.through(y));
    }

    private static void clearOfNothingAndOfAll() {
        SurprisedMayor x = new SurprisedMayor();
        due("3 clear of nothing", x.clear(), 0);
        x.type('?');
        due("3 clear of one", x.clear(), 1);
        due("3 clear of nothing", x.clear(), 0);
        Check.type(x, rows("?", 150));
        due("3 clear of all", x.clear(), 150);
        due("26 letters", x.count(4), 0);
        due("2 room again", x.type('k'), 1);
    }

    private static void newObjectHasNothing() {
        CHECK.same("1 a new object", Look.at(new SurprisedMayor()), "3 2 0 0 0 now -9 0 -1 0 trace 0");
        SurprisedMayor x = new SurprisedMayor();
        due("13 nothing to undo", x.undo(), STATE);
        due("12 nobody abdicates", x.abdicates(), STATE);
        due("25 no image 0", x.back(0), STATE);
        due("25 no image 1", x.back(1), STATE);
        due("20 nothing noted", x.forget(), 0);
        due("24 none has had a term", x.keep(0), 0);
    }
}
