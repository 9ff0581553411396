import java.lang.reflect.Constructor;
import java.lang.reflect.Field;
import java.lang.reflect.Method;
import java.lang.reflect.Modifier;
import java.nio.file.Files;
import java.nio.file.Path;
import java.util.Arrays;
import java.util.Set;
import java.util.TreeSet;
import java.util.regex.Pattern;

/** The public face, and what LANGUAGE.md rules out where a look at the class can tell. */
public final class FaceTest {
    private static final String[] FACE = {
        "int type(int)", "int clear()", "int town()", "int person(int,int)", "int seen(int,int)",
        "int surprise(int,int)", "int now(int)", "int happens(int,int)", "int walks(int,int)",
        "int tells(int,int)", "int abdicates()", "int undo()", "int who(int,int)", "int plan(int,int)",
        "int duel(int,int,int)", "int stale(int,int)", "int odds(int,int,int,int)", "int notes(int,int,int)",
        "int forget()", "int nerves(int,int)", "int test(int)", "int rate(int,int)", "int keep(int)",
        "int back(int)", "int count(int)", "long trace()"};
    private static final Check CHECK = new Check();

    public static void main(String[] args) throws Exception {
        members();
        constants();
        insides();
        words();
        CHECK.end();
    }

    private static String told(Method m) {
        StringBuilder b = new StringBuilder(m.getReturnType().getName()).append(' ').append(m.getName()).append('(');
        Class<?>[] types = m.getParameterTypes();
        for (int i = 0; i < types.length; i++) {
            b.append(i == 0 ? "" : ",").append(types[i].getName());
        }
        return b.append(')').toString();
    }

    private static void members() {
        Class<?> c = SurprisedMayor.class;
        CHECK.holds("public and final", Modifier.isPublic(c.getModifiers()) && Modifier.isFinal(c.getModifiers()));
        Set<String> open = new TreeSet<>();
        for (Method m : c.getDeclaredMethods()) {
            if (!Modifier.isPrivate(m.getModifiers())) {
                CHECK.holds(m + " is public, not static", (m.getModifiers() & ~Modifier.PUBLIC) == 0);
                open.add(told(m));
            }
        }
        CHECK.holds("the face's methods and no others: " + open, open.equals(new TreeSet<>(Arrays.asList(FACE))));
        Constructor<?>[] all = c.getDeclaredConstructors();
        CHECK.holds("one constructor, public, bare",
                all.length == 1 && Modifier.isPublic(all[0].getModifiers()) && all[0].getParameterCount() == 0);
    }

    private static void constants() throws Exception {
        Set<String> open = new TreeSet<>();
        for (Field f : SurprisedMayor.class.getDeclaredFields()) {
            if (!Modifier.isPrivate(f.getModifiers())) {
                open.add(f.getName() + "=" + f.getInt(null));
            }
            if (Modifier.isStatic(f.getModifiers())) {
                CHECK.holds(f + " is final", Modifier.isFinal(f.getModifiers()));
            }
        }
        Set<String> want = new TreeSet<>(Set.of("BAD=-1", "STATE=-2", "FULL=-3", "NONE=-9", "NO=-1000000"));
        CHECK.holds("the face's constants and no others: " + open, open.equals(want));
    }

    private static void insides() {
        Set<String> names = new TreeSet<>();
        for (String one : FACE) {
            names.add(one.substring(one.indexOf(' ') + 1, one.indexOf('(')));
        }
        Class<?>[] inside = SurprisedMayor.class.getDeclaredClasses();
        CHECK.holds("at most twelve classes", inside.length < 12);
        for (Class<?> c : inside) {
            CHECK.holds(c + " is static", Modifier.isStatic(c.getModifiers()));
            CHECK.holds(c + " is not open", !Modifier.isPublic(c.getModifiers()));
            for (Method m : c.getDeclaredMethods()) {
                CHECK.holds(m + " has a name of its own", !names.contains(m.getName()));
                CHECK.holds(m + " takes seven at most", m.getParameterCount() <= 7);
            }
        }
        for (Method m : SurprisedMayor.class.getDeclaredMethods()) {
            if (Modifier.isPrivate(m.getModifiers())) {
                CHECK.holds(m + " has a name of its own", !names.contains(m.getName()));
            }
        }
    }

    private static void words() throws Exception {
        String source = Files.readString(Path.of("src/main/java/SurprisedMayor.java"));
        String code = source.replaceAll("(?s)/\\*.*?\\*/", "").replaceAll("//[^\n]*", "");
        String[] ruledOut = {"\\bthrow\\b", "\\bthrows\\b", "\\btry\\b", "\\bcatch\\b", "\\bsynchronized\\b", "\\bassert\\b",
            "->", "::", "Exact\\b", "\\bprotected\\b", "\\bpackage\\b", "System\\.(?!arraycopy)", "static\\s*\\{"};
        for (String word : ruledOut) {
            CHECK.holds("no " + word, !Pattern.compile(word).matcher(code).find());
        }
        CHECK.holds("signs 10, 32 .. 126 alone", source.chars().allMatch(c -> c == 10 || c >= 32 && c < 127));
    }
}
