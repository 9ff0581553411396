/** Counts the answers that are not as due, and tells them. */
public final class Check {
    private int asked = 0;
    private int wrong = 0;

    public void due(String call, long got, long want) {
        asked++;
        if (got != want) {
            wrong++;
            if (wrong <= 40) {
                System.out.println(call + " answered " + got + ", due is " + want);
            }
        }
    }

    public void holds(String what, boolean is) {
        due(what, is ? 1 : 0, 1);
    }

    public void same(String what, String got, String want) {
        asked++;
        if (!got.equals(want)) {
            wrong++;
            if (wrong <= 40) {
                System.out.println(what + ": looks like\n" + got + "\n  due is\n" + want);
            }
        }
    }

    /** Tells the sum and ends the program. */
    public void end() {
        System.out.println(asked + " answers, " + wrong + " not as due");
        System.exit(wrong == 0 ? 0 : 1);
    }

    public static void type(SurprisedMayor x, String text) {
        for (int i = 0; i < text.length(); i++) {
            x.type(text.charAt(i));
        }
    }

    /** A new object, and what town() answers for a text. */
    public static int read(String text) {
        SurprisedMayor x = new SurprisedMayor();
        type(x, text);
        return x.town();
    }

    public static SurprisedMayor town(String text) {
        SurprisedMayor x = new SurprisedMayor();
        type(x, text);
        int items = x.town();
        if (items < 0) {
            throw new IllegalStateException(text + " has a fault at " + (-10 - items));
        }
        return x;
    }
}
