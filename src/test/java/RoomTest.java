import java.lang.management.ManagementFactory;
import java.lang.reflect.Array;
import java.lang.reflect.Field;
import java.lang.reflect.Modifier;
import java.util.ArrayDeque;
import java.util.Collections;
import java.util.Deque;
import java.util.IdentityHashMap;
import java.util.Set;

/** LANGUAGE.md's rule 12 and the one room: an object is small, and no call makes another object. */
public final class RoomTest {
    private static final int MOST_OBJECTS = 200;
    private static final int MOST_CELLS = 2000;
    private static final int ROUNDS = 2000;
    private static final String TEXT = "k4;x4;p30 0 0 1 2 3;p60 1 9 0 0 0;p0 2 0 0 0 0;p90 3 1 1 1 1;p75 0 0 0 0 0;";
    private static final Check CHECK = new Check();

    public static void main(String[] args) throws Exception {
        objectIsSmall();
        objectsStayTheSame();
        callsMakeNothing();
        CHECK.end();
    }

    /** All objects and arrays that are reached from one. */
    private static Set<Object> reached(Object first) throws Exception {
        Set<Object> all = Collections.newSetFromMap(new IdentityHashMap<>());
        Deque<Object> open = new ArrayDeque<>();
        open.add(first);
        while (!open.isEmpty()) {
            Object one = open.remove();
            if (!all.add(one)) {
                continue;
            }
            if (one instanceof Object[] row) {
                for (Object cell : row) {
                    if (cell != null) {
                        open.add(cell);
                    }
                }
            } else if (!one.getClass().isArray()) {
                for (Field field : one.getClass().getDeclaredFields()) {
                    if (!Modifier.isStatic(field.getModifiers()) && !field.getType().isPrimitive()) {
                        field.setAccessible(true);
                        Object value = field.get(one);
                        if (value != null) {
                            open.add(value);
                        }
                    }
                }
            }
        }
        return all;
    }

    private static int cells(Object one) {
        if (one.getClass().isArray()) {
            return Array.getLength(one);
        }
        int fields = 0;
        for (Field field : one.getClass().getDeclaredFields()) {
            fields += Modifier.isStatic(field.getModifiers()) ? 0 : 1;
        }
        return fields;
    }

    private static void objectIsSmall() throws Exception {
        Set<Object> all = reached(new SurprisedMayor());
        int cells = 0;
        for (Object one : all) {
            cells += cells(one);
        }
        CHECK.holds(all.size() + " objects and arrays", all.size() <= MOST_OBJECTS);
        CHECK.holds(cells + " fields and elements", cells <= MOST_CELLS);
    }

    private static void objectsStayTheSame() throws Exception {
        SurprisedMayor x = new SurprisedMayor();
        Set<Object> first = reached(x);
        for (int round = 0; round < 15; round++) {
            everyCall(x, round);
        }
        Set<Object> last = reached(x);
        CHECK.due("objects", last.size(), first.size());
        CHECK.holds("the same ones", first.containsAll(last));
    }

    /** A town of as much as there may be, and each call in it. */
    private static void everyCall(SurprisedMayor x, int round) {
        x.clear();
        for (int i = 0; i < TEXT.length(); i++) {
            x.type(TEXT.charAt(i));
        }
        x.town();
        int p = round % 5, kind = round % 4, place = round / 4 % 4;
        x.happens(kind, place);
        x.walks(p, place);
        x.tells(p, kind);
        x.keep(round % 2);
        x.abdicates();
        x.undo();
        x.back(round % 2);
        x.who(kind, place);
        x.plan(p, -1);
        x.duel(p, round % 4, round % 2);
        x.stale(kind, place);
        x.odds(p, place, round % 5, round % 2);
        x.notes(p, kind, round % 2);
        x.nerves(p, round % 3);
        x.test(p);
        x.forget();
        x.rate(round % 6, p);
        x.person(p, kind);
        x.seen(p, kind);
        x.surprise(p, kind);
        x.now(kind);
        x.count(p);
        x.trace();
        // a fault, too
        x.type('?');
        x.town();
    }

    private static void callsMakeNothing() {
        if (!(ManagementFactory.getThreadMXBean() instanceof com.sun.management.ThreadMXBean threads)) {
            System.out.println("this machine does not tell what a call makes");
            return;
        }
        long me = Thread.currentThread().getId();
        SurprisedMayor x = new SurprisedMayor();
        everyCall(x, 3);
        threads.getThreadAllocatedBytes(me);
        long ahead = threads.getThreadAllocatedBytes(me);
        for (int round = 0; round < ROUNDS; round++) {
            everyCall(x, round);
        }
        long made = threads.getThreadAllocatedBytes(me) - ahead;
        // the least object has 16 bytes; less than one in ten rounds is the machine's own doing
        CHECK.holds(made + " bytes made by " + ROUNDS + " rounds of all calls", made < ROUNDS * 16 / 10);
    }
}
