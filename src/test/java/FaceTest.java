import java.lang.reflect.Constructor;
import java.lang.reflect.Field;
import java.lang.reflect.Method;
import java.lang.reflect.Modifier;
import java.nio.file.Files;
import java.nio.file.Path;
import java.util.ArrayList;
import java.util.Arrays;
import java.util.List;
import java.util.Set;
import java.util.TreeSet;
import java.util.regex.Matcher;
import java.util.regex.Pattern;

/** The public face, and what LANGUAGE.md rules out where a look at the class can tell. */
public final class FaceTest {
    private static final String[] FACE = {
        "int type(int)", "int clear()", "int town()", "int person(int,int)", "int seen(int,int)",
        "int surprise(int,int)", "int now(int)", "int happens(int,int)", "int walks(int,int)",
        "int tells(int,int)", "int abdicates()", "int undo()", "int who(int,int)", "int plan(int,int)",
        "int duel(int,int,int)", "int stale(int,int)", "int odds(int,int,int,int)", "int notes(int,int,int)",
        "int forget()", "int nerves(int,int)", "int test(int)", "int rate(int,int)", "int keep(int)",
        "int back(int)", "int count(int)", "long trace()"};
    private static final Check CHECK = new Check();

    public static void main(String[] args) throws Exception {
        members();
        constants();
        insides();
        fields();
        words();
        library();
        lengths();
        nothingIsMadeByCalls();
        CHECK.end();
    }

    private static String told(Method m) {
        StringBuilder b = new StringBuilder(m.getReturnType().getName()).append(' ').append(m.getName()).append('(');
        Class<?>[] types = m.getParameterTypes();
        for (int i = 0; i < types.length; i++) {
            b.append(i == 0 ? "" : ",").append(types[i].getName());
        }
        return b.append(')').toString();
    }

    private static void members() {
        Class<?> c = SurprisedMayor.class;
        CHECK.holds("public and final", Modifier.isPublic(c.getModifiers()) && Modifier.isFinal(c.getModifiers()));
        Set<String> open = new TreeSet<>();
        for (Method m : c.getDeclaredMethods()) {
            if (!Modifier.isPrivate(m.getModifiers())) {
                CHECK.holds(m + " is public, not static", (m.getModifiers() & ~Modifier.PUBLIC) == 0);
                open.add(told(m));
            }
        }
        CHECK.holds("the face's methods and no others: " + open, open.equals(new TreeSet<>(Arrays.asList(FACE))));
        Constructor<?>[] all = c.getDeclaredConstructors();
        CHECK.holds("one constructor, public, bare",
                all.length == 1 && Modifier.isPublic(all[0].getModifiers()) && all[0].getParameterCount() == 0);
    }

    private static void constants() throws Exception {
        Set<String> open = new TreeSet<>();
        for (Field f : SurprisedMayor.class.getDeclaredFields()) {
            if (!Modifier.isPrivate(f.getModifiers())) {
                open.add(f.getName() + "=" + f.getInt(null));
            }
            if (Modifier.isStatic(f.getModifiers())) {
                CHECK.holds(f + " is final", Modifier.isFinal(f.getModifiers()));
            }
        }
        Set<String> want = new TreeSet<>(Set.of("BAD=-1", "STATE=-2", "FULL=-3", "NONE=-9", "NO=-1000000"));
        CHECK.holds("the face's constants and no others: " + open, open.equals(want));
    }

    private static void insides() {
        Set<String> names = new TreeSet<>();
        for (String one : FACE) {
            names.add(one.substring(one.indexOf(' ') + 1, one.indexOf('(')));
        }
        Class<?>[] inside = SurprisedMayor.class.getDeclaredClasses();
        CHECK.holds("at most twelve classes", inside.length < 12);
        for (Class<?> c : inside) {
            CHECK.holds(c + " is static", Modifier.isStatic(c.getModifiers()));
            CHECK.holds(c + " is not open", !Modifier.isPublic(c.getModifiers()));
            for (Method m : c.getDeclaredMethods()) {
                CHECK.holds(m + " has a name of its own", !names.contains(m.getName()));
                CHECK.holds(m + " takes seven at most", m.getParameterCount() <= 7);
            }
        }
        for (Method m : SurprisedMayor.class.getDeclaredMethods()) {
            if (Modifier.isPrivate(m.getModifiers())) {
                CHECK.holds(m + " has a name of its own", !names.contains(m.getName()));
            }
        }
    }

    // a class some twenty fields beside its constants; static fields are constants
    private static void fields() {
        List<Class<?>> all = new ArrayList<>(List.of(SurprisedMayor.class));
        all.addAll(List.of(SurprisedMayor.class.getDeclaredClasses()));
        for (Class<?> c : all) {
            int own = 0;
            for (Field f : c.getDeclaredFields()) {
                if (Modifier.isStatic(f.getModifiers())) {
                    CHECK.holds(f + " is a constant", Modifier.isFinal(f.getModifiers()) && f.getType() == int.class);
                } else {
                    own++;
                }
            }
            CHECK.holds(c + " has some twenty fields at most", own <= 20);
        }
    }

    private static String source() throws Exception {
        return Files.readString(Path.of("src/main/java/SurprisedMayor.java"));
    }

    private static String code() throws Exception {
        return source().replaceAll("(?s)/\\*.*?\\*/", "").replaceAll("//[^\n]*", "");
    }

    private static Set<String> found(String pattern, String code) {
        Set<String> all = new TreeSet<>();
        Matcher m = Pattern.compile(pattern).matcher(code);
        while (m.find()) {
            all.add(m.group());
        }
        return all;
    }

    private static void words() throws Exception {
        String source = source();
        String code = code();
        String[] ruledOut = {"\\bthrow\\b", "\\bthrows\\b", "\\btry\\b", "\\bcatch\\b", "\\bsynchronized\\b", "\\bassert\\b",
            "->", "::", "Exact\\b", "\\bprotected\\b", "\\bpackage\\b", "System\\.(?!arraycopy)", "static\\s*\\{"};
        for (String word : ruledOut) {
            CHECK.holds("no " + word, !Pattern.compile(word).matcher(code).find());
        }
        CHECK.holds("signs 10, 32 .. 126 alone", source.chars().allMatch(c -> c == 10 || c >= 32 && c < 127));
    }

    // only what stands in LANGUAGE.md, and of that no more than is needed
    private static void library() throws Exception {
        String code = code();
        CHECK.same("imports", found("import [^;]*", code).toString(), "[import java.util.Arrays]");
        Set<String> may = Set.of("Math.max", "Math.min", "Arrays.fill", "System.arraycopy");
        for (String call : found("\\b(Math|Arrays|System|Integer|Long|String|StringBuilder|List|ArrayList)\\.\\w+", code)) {
            CHECK.holds(call + " may be used", may.contains(call));
        }
        CHECK.same("floats", found("\\b(double|float)\\b", code).toString(), "[]");
    }

    // methods stay short (some sixty lines)
    private static void lengths() throws Exception {
        String[] lines = source().split("\n");
        int begun = 0;
        for (int i = 0; i < lines.length; i++) {
            if (lines[i].matches(" +[^/*]*\\) \\{") && !lines[i].matches(" *(if|for|while|switch|} else).*")) {
                begun = i;
            } else if (lines[i].matches("( {4}| {8})}")) {
                CHECK.holds("the method that begins at line " + (begun + 1) + " is short", i - begun < 60 || begun == 0);
            }
        }
    }

    // objects are made by the fields and by the constructors of the rows alone
    private static void nothingIsMadeByCalls() throws Exception {
        for (String line : code().split("\n")) {
            if (line.matches(".*\\bnew\\b.*")) {
                boolean field = line.matches(" +(private )?final \\S+ \\w+ = .*;");
                CHECK.holds("made once:" + line, field || line.trim().equals("rows[i] = new Now();"));
            }
        }
        CHECK.same("copies", found("\\b(clone|copyOf\\w*|values|toCharArray|substring|append)\\(", code()).toString(), "[]");
    }
}
