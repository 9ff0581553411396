import java.lang.reflect.Method;
import java.lang.reflect.Modifier;
import java.nio.file.Files;
import java.nio.file.Path;
import java.util.ArrayList;
import java.util.Arrays;
import java.util.List;
import java.util.Map;
import java.util.Set;
import java.util.TreeMap;
import java.util.TreeSet;
import java.util.regex.Matcher;
import java.util.regex.Pattern;
import java.util.stream.Stream;

/** What README.md says holds of the class: its examples, its constants, its table of calls, its list of tests. */
public final class ReadmeTest {
    private static final Pattern ROW = Pattern.compile("\\| `(\\w+)\\(([^)]*)\\)` \\|([^|]*)\\|([^|]*)\\|");
    private static final Check CHECK = new Check();
    private static String page;
    private static SurprisedMayor x;

    public static void main(String[] args) throws Exception {
        page = Files.readString(Path.of("README.md"));
        examples();
        tellIsAsThePageHasIt();
        constants();
        tableHasEveryCall();
        tableHasEveryRefusal();
        testsAreListed();
        CHECK.end();
    }

    static int tell(SurprisedMayor x, String text) {
        for (int i = 0; i < text.length(); i++) {
            x.type(text.charAt(i));
        }
        return x.town();
    }

    private static List<String> blocks() {
        List<String> all = new ArrayList<>();
        Matcher m = Pattern.compile("(?s)```java\n(.*?)```").matcher(page);
        while (m.find()) {
            all.add(m.group(1));
        }
        return all;
    }

    private static boolean isTell(String block) {
        return block.startsWith("static int tell(");
    }

    private static String bare(String code) {
        return code.replaceAll("\\s+", " ").trim();
    }

    private static void tellIsAsThePageHasIt() throws Exception {
        String own = bare(Files.readString(Path.of("src/test/java/ReadmeTest.java")));
        List<String> told = blocks().stream().filter(ReadmeTest::isTell).toList();
        CHECK.due("tell() stands there once", told.size(), 1);
        CHECK.holds("tell() is what this test uses", told.size() == 1 && own.contains(bare(told.get(0))));
    }

    private static void examples() throws Exception {
        int lines = 0;
        for (String block : blocks()) {
            if (!isTell(block)) {
                for (String line : block.split("\n")) {
                    example(line.trim());
                    lines++;
                }
            }
        }
        CHECK.holds("there are examples", lines > 20);
    }

    private static void example(String line) throws Exception {
        if (line.equals("SurprisedMayor x = new SurprisedMayor();")) {
            x = new SurprisedMayor();
            return;
        }
        Matcher told = Pattern.compile("tell\\(x, \"([^\"]*)\"\\);\\s*// (-?\\d+)\\b.*").matcher(line);
        Matcher call = Pattern.compile("x\\.(\\w+)\\(([^)]*)\\);\\s*// (-?\\d+)\\b.*").matcher(line);
        if (told.matches()) {
            CHECK.due(line, tell(x, told.group(1)), Long.parseLong(told.group(2)));
        } else if (call.matches()) {
            int[] numbers = names(call.group(2)).stream().mapToInt(Integer::parseInt).toArray();
            CHECK.due(line, ask(x, call.group(1), numbers), Long.parseLong(call.group(3)));
        } else {
            CHECK.holds("an example that can be tried: " + line, false);
        }
    }

    private static List<String> names(String arguments) {
        return arguments.isBlank() ? List.of() : Arrays.asList(arguments.split(",\\s*"));
    }

    private static long ask(SurprisedMayor of, String name, int[] numbers) throws Exception {
        Class<?>[] types = new Class<?>[numbers.length];
        Arrays.fill(types, int.class);
        Object[] boxed = Arrays.stream(numbers).boxed().toArray();
        return ((Number) SurprisedMayor.class.getMethod(name, types).invoke(of, boxed)).longValue();
    }

    private static void constants() throws Exception {
        Set<String> found = new TreeSet<>();
        Matcher m = Pattern.compile("`(BAD|STATE|FULL|NONE|NO)`\\s+\\((-?\\d+)\\)").matcher(page);
        while (m.find()) {
            found.add(m.group(1));
            CHECK.due(m.group(1), SurprisedMayor.class.getField(m.group(1)).getInt(null), Long.parseLong(m.group(2)));
        }
        CHECK.due("constants told: " + found, found.size(), 5);
    }

    /** Each call's name, with how many numbers it takes. */
    private static Map<String, Integer> face() {
        Map<String, Integer> all = new TreeMap<>();
        for (Method m : SurprisedMayor.class.getDeclaredMethods()) {
            if (Modifier.isPublic(m.getModifiers())) {
                all.put(m.getName(), m.getParameterCount());
            }
        }
        return all;
    }

    private static void tableHasEveryCall() {
        Map<String, Integer> told = new TreeMap<>();
        Matcher m = ROW.matcher(page);
        while (m.find()) {
            CHECK.holds(m.group(1) + " stands there once", !told.containsKey(m.group(1)));
            told.put(m.group(1), names(m.group(2)).size());
        }
        CHECK.same("the table's calls", told.toString(), face().toString());
    }

    private static SurprisedMayor young() {
        return Check.town("k1;x1;p1 0 0;");
    }

    private static SurprisedMayor full() {
        SurprisedMayor full = young();
        Check.type(full, "?".repeat(150));
        for (int i = 0; i < 6; i++) {
            full.notes(0, 0, 1);
        }
        return full;
    }

    /** By the least of all numbers; by noughts in a town just read; by noughts where no more has room. */
    private static void tableHasEveryRefusal() throws Exception {
        Matcher m = ROW.matcher(page);
        while (m.find()) {
            String name = m.group(1);
            int[] noughts = new int[names(m.group(2)).size()];
            int[] least = new int[noughts.length];
            Arrays.fill(least, Integer.MIN_VALUE);
            Set<String> want = new TreeSet<>();
            if (least.length > 0) {
                want.add(ask(young(), name, least) == SurprisedMayor.NO ? "NO" : "BAD");
                long first = want.contains("NO") ? SurprisedMayor.NO : SurprisedMayor.BAD;
                CHECK.due(name + " by the least of all numbers", ask(young(), name, least), first);
            }
            if (ask(young(), name, noughts) == SurprisedMayor.STATE) {
                want.add("STATE");
            }
            if (ask(full(), name, noughts) == SurprisedMayor.FULL) {
                want.add("FULL");
            }
            CHECK.same(name + " is refused by", words(m.group(4)).toString(), want.toString());
        }
    }

    private static Set<String> words(String text) {
        Set<String> all = new TreeSet<>();
        Matcher m = Pattern.compile("\\b[A-Z]{2,}\\b").matcher(text);
        while (m.find()) {
            all.add(m.group());
        }
        return all;
    }

    private static void testsAreListed() throws Exception {
        Set<String> told = new TreeSet<>();
        Matcher m = Pattern.compile("`(\\w+Test)`").matcher(page);
        while (m.find()) {
            told.add(m.group(1));
        }
        Set<String> there = new TreeSet<>();
        try (Stream<Path> files = Files.list(Path.of("src/test/java"))) {
            files.map(file -> file.getFileName().toString()).filter(name -> name.endsWith("Test.java"))
                    .forEach(name -> there.add(name.replace(".java", "")));
        }
        CHECK.same("the tests", told.toString(), there.toString());
    }
}
