import java.util.List;

/** "Refused, and nothing changes, the first of these: BAD .., STATE .., FULL": every call, every argument. */
public final class RefusedTest {
    private static final int BAD = -1, STATE = -2, FULL = -3, NO = -1000000;
    private static final String[] TOWNS = {
        "k1;x1;p5 0 0;",
        "p5 0 0 0 0;p6 1 1 1 1;",
        "k2;x3;p50 1 0 0;p0 2 3 4;",
        "k4;x4;" + "p9 3 9 9 9 9;".repeat(5),
    };
    private static final Check CHECK = new Check();

    private interface Call {
        long ask(SurprisedMayor x, int[] a);
    }

    /** What each argument may be: p, k, x by the town; L a letter; m -1 .. 2; a digit 0 .. as much. */
    private record Face(String name, String arguments, int refused, Call call) {
    }

    private static final List<Face> FACE = List.of(
            new Face("type", "L", BAD, (x, a) -> x.type(a[0])),
            new Face("person", "p3", BAD, (x, a) -> x.person(a[0], a[1])),
            new Face("seen", "pk", BAD, (x, a) -> x.seen(a[0], a[1])),
            new Face("surprise", "pk", BAD, (x, a) -> x.surprise(a[0], a[1])),
            new Face("now", "3", NO, (x, a) -> x.now(a[0])),
            new Face("happens", "kx", BAD, (x, a) -> x.happens(a[0], a[1])),
            new Face("walks", "px", BAD, (x, a) -> x.walks(a[0], a[1])),
            new Face("tells", "pk", BAD, (x, a) -> x.tells(a[0], a[1])),
            new Face("who", "kx", BAD, (x, a) -> x.who(a[0], a[1])),
            new Face("plan", "pm", BAD, (x, a) -> x.plan(a[0], a[1])),
            new Face("duel", "p31", BAD, (x, a) -> x.duel(a[0], a[1], a[2])),
            new Face("stale", "kx", BAD, (x, a) -> x.stale(a[0], a[1])),
            new Face("odds", "px41", BAD, (x, a) -> x.odds(a[0], a[1], a[2], a[3])),
            new Face("notes", "pk1", BAD, (x, a) -> x.notes(a[0], a[1], a[2])),
            new Face("nerves", "p2", BAD, (x, a) -> x.nerves(a[0], a[1])),
            new Face("test", "p", BAD, (x, a) -> x.test(a[0])),
            new Face("rate", "5p", NO, (x, a) -> x.rate(a[0], a[1])),
            new Face("keep", "1", BAD, (x, a) -> x.keep(a[0])),
            new Face("back", "1", BAD, (x, a) -> x.back(a[0])),
            new Face("count", "4", BAD, (x, a) -> x.count(a[0])));

    public static void main(String[] args) {
        for (Face face : FACE) {
            leastAndGreatestAreTaken(face);
            beyondIsRefused(face);
            allBeyondIsRefused(face);
            nobodyIsRefused(face);
            refusedChangesNothing(face);
        }
        stateChangesNothing();
        fullChangesNothing();
        badIsAheadOfState();
        badIsAheadOfFull();
        CHECK.end();
    }

    private static int low(char argument) {
        return argument == 'm' ? -1 : 0;
    }

    private static int high(SurprisedMayor x, char argument) {
        return switch (argument) {
            case 'p' -> x.count(2) - 1;
            case 'k' -> x.count(0) - 1;
            case 'x' -> x.count(1) - 1;
            case 'L' -> 255;
            case 'm' -> 2;
            default -> argument - '0';
        };
    }

    private static int[] arguments(SurprisedMayor x, Face face, boolean highest) {
        int[] a = new int[face.arguments().length()];
        for (int i = 0; i < a.length; i++) {
            char argument = face.arguments().charAt(i);
            a[i] = highest ? high(x, argument) : low(argument);
        }
        return a;
    }

    /** The first numbers beyond on either side, and the farthest. */
    private static int[] beyond(SurprisedMayor x, char argument) {
        return new int[] {low(argument) - 1, high(x, argument) + 1, Integer.MIN_VALUE, Integer.MAX_VALUE};
    }

    private static String told(Face face, int[] a, String text) {
        StringBuilder b = new StringBuilder(face.name()).append('(');
        for (int i = 0; i < a.length; i++) {
            b.append(i == 0 ? "" : ", ").append(a[i]);
        }
        return b.append(") in ").append(text).toString();
    }

    private static void leastAndGreatestAreTaken(Face face) {
        for (String text : TOWNS) {
            for (int i = 0; i < face.arguments().length(); i++) {
                for (int ends = 0; ends < 4; ends++) {
                    SurprisedMayor x = Check.town(text);
                    int[] a = arguments(x, face, ends % 2 == 1);
                    a[i] = arguments(x, face, ends / 2 == 1)[i];
                    CHECK.holds(told(face, a, text) + " is taken", face.call().ask(x, a) != face.refused());
                }
            }
        }
    }

    private static void beyondIsRefused(Face face) {
        for (String text : TOWNS) {
            SurprisedMayor x = Check.town(text);
            for (int i = 0; i < face.arguments().length(); i++) {
                for (int far : beyond(x, face.arguments().charAt(i))) {
                    for (int ends = 0; ends < 2; ends++) {
                        int[] a = arguments(x, face, ends == 1);
                        a[i] = far;
                        CHECK.due(told(face, a, text), face.call().ask(x, a), face.refused());
                    }
                }
            }
        }
    }

    private static void allBeyondIsRefused(Face face) {
        for (String text : TOWNS) {
            SurprisedMayor x = Check.town(text);
            for (int side = 0; side < 4; side++) {
                int[] a = new int[face.arguments().length()];
                for (int i = 0; i < a.length; i++) {
                    a[i] = beyond(x, face.arguments().charAt(i))[side];
                }
                CHECK.due(told(face, a, text), face.call().ask(x, a), face.refused());
            }
        }
    }

    // there is no such thing
    private static void nobodyIsRefused(Face face) {
        if (face.arguments().indexOf('p') < 0) {
            return;
        }
        SurprisedMayor x = new SurprisedMayor();
        for (int p = -1; p <= 5; p++) {
            int[] a = arguments(x, face, false);
            a[face.arguments().indexOf('p')] = p;
            CHECK.due(told(face, a, "a town without people"), face.call().ask(x, a), face.refused());
        }
    }

    /** Three things done, two images, two notes, a letter, a trace. */
    private static SurprisedMayor lived() {
        SurprisedMayor x = Check.town("k2;x3;p50 1 0 0;p0 2 3 4;");
        x.happens(0, 1);
        x.keep(0);
        x.tells(1, 0);
        x.keep(1);
        x.walks(1, 0);
        x.notes(1, 1, 0);
        x.notes(0, 0, 1);
        x.rate(3, 0);
        x.type('k');
        return x;
    }

    private static void refusedChangesNothing(Face face) {
        String want = Look.through(lived());
        for (int i = 0; i < face.arguments().length(); i++) {
            for (int far : beyond(lived(), face.arguments().charAt(i))) {
                SurprisedMayor x = lived();
                int[] a = arguments(x, face, true);
                a[i] = far;
                face.call().ask(x, a);
                CHECK.same("nothing changed by " + told(face, a, "a town"), Look.through(x), want);
            }
        }
    }

    private static SurprisedMayor young() {
        return Check.town("k2;x3;p50 1 0 0;p0 2 3 4;");
    }

    private static void stateChangesNothing() {
        String want = Look.through(lived());
        for (int p = 0; p < 2; p++) {
            SurprisedMayor x = lived();
            CHECK.due("10 he is there", x.walks(p, x.person(p, 1)), STATE);
            CHECK.same("10 nothing changed", Look.through(x), want);
        }
        want = Look.through(young());
        SurprisedMayor x = young();
        CHECK.due("12 nobody", x.abdicates(), STATE);
        CHECK.due("13 none", x.undo(), STATE);
        CHECK.due("25 none was kept", x.back(0), STATE);
        CHECK.due("25 none was kept", x.back(1), STATE);
        CHECK.same("12, 13, 25 nothing changed", Look.through(x), want);
    }

    private static SurprisedMayor full() {
        SurprisedMayor x = lived();
        for (int i = 0; i < 4; i++) {
            x.notes(0, 0, 1);
        }
        Check.type(x, "2;" + " ".repeat(147));
        return x;
    }

    private static void fullChangesNothing() {
        SurprisedMayor x = full();
        CHECK.due("2 full", x.type('?'), FULL);
        CHECK.due("19 full", x.notes(1, 1, 1), FULL);
        CHECK.same("2, 19 nothing changed", Look.through(x), Look.through(full()));
    }

    private static void badIsAheadOfState() {
        SurprisedMayor x = young();
        CHECK.due("10 no such one", x.walks(2, 1), BAD);
        CHECK.due("10 no such one", x.walks(-1, 0), BAD);
        CHECK.due("25 no such image", x.back(2), BAD);
        CHECK.due("25 no such image", x.back(-1), BAD);
    }

    private static void badIsAheadOfFull() {
        SurprisedMayor x = full();
        CHECK.due("2 no such letter", x.type(-1), BAD);
        CHECK.due("2 no such letter", x.type(256), BAD);
        CHECK.due("19 no such one", x.notes(2, 0, 0), BAD);
        CHECK.due("19 no such kind", x.notes(0, 2, 0), BAD);
        CHECK.due("19 neither 0 nor 1", x.notes(0, 0, 2), BAD);
        CHECK.due("19 neither 0 nor 1", x.notes(0, 0, -1), BAD);
        CHECK.same("2, 19 nothing changed", Look.through(x), Look.through(full()));
    }
}
