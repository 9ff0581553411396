/** What an object tells of itself, as a text: two that look alike answer alike. */
public final class Look {
    private static final int MOST_UNDONE = 20;

    private Look() {
    }

    /** All that can be asked without a change. */
    public static String at(SurprisedMayor x) {
        StringBuilder b = new StringBuilder();
        for (int what = 0; what < 5; what++) {
            b.append(x.count(what)).append(' ');
        }
        b.append("now");
        for (int what = 0; what < 4; what++) {
            b.append(' ').append(x.now(what));
        }
        b.append(" trace ").append(x.trace());
        for (int p = 0; p < x.count(2); p++) {
            b.append(person(x, p));
        }
        return b.toString();
    }

    private static String person(SurprisedMayor x, int p) {
        StringBuilder b = new StringBuilder(" | ").append(p);
        for (int what = 0; what < 4; what++) {
            b.append(' ').append(x.person(p, what));
        }
        b.append(" seen");
        for (int kind = 0; kind < x.count(0); kind++) {
            b.append(' ').append(x.seen(p, kind));
        }
        return b.append(" nerves ").append(x.nerves(p, 1)).append(' ').append(x.nerves(p, 2)).toString();
    }

    /** What can be asked only with a change, too: each step back, the images, the text. It uses the object up. */
    public static String through(SurprisedMayor x) {
        StringBuilder b = new StringBuilder(at(x));
        for (int i = 0; i < MOST_UNDONE; i++) {
            int more = x.undo();
            b.append("\nundo ").append(more);
            if (more < 0) {
                break;
            }
            b.append(": ").append(at(x));
        }
        for (int image = 0; image < 2; image++) {
            b.append("\nback ").append(x.back(image)).append(": ").append(at(x));
        }
        return b.append("\ntown ").append(x.town()).append(": ").append(at(x)).toString();
    }
}
