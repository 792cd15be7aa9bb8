import java.lang.reflect.Array;
import java.lang.reflect.Field;
import java.lang.reflect.Method;
import java.lang.reflect.Modifier;
import java.util.ArrayDeque;
import java.util.Collections;
import java.util.Deque;
import java.util.IdentityHashMap;
import java.util.Map;
import java.util.Set;
import java.util.TreeMap;
import java.util.TreeSet;

/**
 * The room of one run (LANGUAGE.md, rule 12): what a new object is made of, and what each call of the face makes and
 * keeps, times all calls. RulesTest holds that no other line of the class makes what a call throws away again.
 */
public final class RoomTest {
    private static final int CALLS = 512;
    private static final long MOST_OBJECTS = 600_000;
    private static final long MOST_ELEMENTS = 7_300_000;
    // far below what each call could have for itself, so that a row made by a call is noticed soon
    private static final long ELEMENTS_A_CALL = 1_000;

    private static final String VALLEY =
            "lanes 6; last 99; section 0 1 2 3 4 5 6; section 50 6 5 4 3 2 1; snow 20 fall 3";
    private static final String PEOPLE = "person 0 0 watch 1; person 1 2 watch 0; person 2 3 watch 5; person 5 4";
    private static final String REST =
            "flood 0 0 20; flood 7 10 20; rock 0 5; rock 0 9; table 1 2 3 4 5 6; table 1 2 3 4 5 7";

    private interface Act {
        void on(GlacierMail mail);
    }

    /** What can be reached from an object, itself too: each with its fields, or its elements. */
    private static final class Room {
        final Map<Object, Integer> sizes = new IdentityHashMap<>();

        Room(Object root) {
            Deque<Object> left = new ArrayDeque<>();
            left.add(root);
            while (!left.isEmpty()) {
                Object one = left.remove();
                if (!sizes.containsKey(one)) {
                    sizes.put(one, one.getClass().isArray() ? elements(one, left) : fields(one, left));
                }
            }
        }

        private static int elements(Object array, Deque<Object> left) {
            boolean numbers = array.getClass().getComponentType().isPrimitive();
            for (int i = 0; !numbers && i < Array.getLength(array); i++) {
                add(Array.get(array, i), left);
            }
            return Array.getLength(array);
        }

        private static int fields(Object object, Deque<Object> left) {
            int many = 0;
            for (Class<?> type = object.getClass(); type != Object.class; type = type.getSuperclass()) {
                for (Field field : type.getDeclaredFields()) {
                    if (!Modifier.isStatic(field.getModifiers())) {
                        many++;
                        if (!field.getType().isPrimitive()) {
                            add(valueOf(field, object), left);
                        }
                    }
                }
            }
            return many;
        }

        private static Object valueOf(Field field, Object object) {
            try {
                field.setAccessible(true);
                return field.get(object);
            } catch (IllegalAccessException e) {
                throw new IllegalStateException(e);
            }
        }

        private static void add(Object one, Deque<Object> left) {
            if (one != null) {
                left.add(one);
            }
        }

        long objects() {
            return sizes.size();
        }

        long elements() {
            long sum = 0;
            for (int size : sizes.values()) {
                sum += size;
            }
            return sum;
        }

        void leave(Room other) {
            Set<Object> gone = Collections.newSetFromMap(new IdentityHashMap<>());
            gone.addAll(other.sizes.keySet());
            sizes.keySet().removeIf(gone::contains);
        }
    }

    public static void main(String[] args) {
        Map<String, Act> acts = acts();
        allAreCalled(acts);
        Check.same("the long law fills the TAPE", longLaw().length(), 400);
        Room own = new Room(new GlacierMail());
        Check.same("a new object's objects are few", own.objects() < 1_000, true);
        Check.same("a new object's elements are few", own.elements() < 50_000, true);
        long objects = 0;
        long elements = 0;
        for (Map.Entry<String, Act> act : acts.entrySet()) {
            Room made = madeBy(act.getValue());
            Check.same(act.getKey() + " makes and keeps something", made.objects() > 0, act.getKey().equals("law"));
            Check.same(act.getKey() + " makes few elements", made.elements() <= ELEMENTS_A_CALL, true);
            objects = Math.max(objects, made.objects());
            elements = Math.max(elements, made.elements());
        }
        Check.same("all objects have room", own.objects() + CALLS * objects < MOST_OBJECTS, true);
        Check.same("all elements have room", own.elements() + CALLS * elements < MOST_ELEMENTS, true);
        againIsNotMade(acts);
        System.out.println("a new object: " + own.objects() + " objects, " + own.elements() + " elements; "
                + "the dearest call: " + objects + " and " + elements);
        Check.finish();
    }

    /** What one call makes that the object has not had, under a law that no call has asked for a FLOW yet. */
    private static Room madeBy(Act act) {
        GlacierMail mail = ready();
        Room before = new Room(mail);
        act.on(mail);
        Room after = new Room(mail);
        after.leave(before);
        return after;
    }

    /** All calls on one object, twice over: what is forgotten by a text or by going back is not made anew. */
    private static void againIsNotMade(Map<String, Act> acts) {
        GlacierMail mail = ready();
        Room before = new Room(mail);
        for (int i = 0; i < 2; i++) {
            for (Map.Entry<String, Act> act : acts.entrySet()) {
                if (!act.getKey().equals("law")) {
                    act.getValue().on(mail);
                }
            }
        }
        Room after = new Room(mail);
        after.leave(before);
        Check.same("objects that all calls but law() made", after.objects(), 0L);
    }

    /** A valley with some of everything, a long law (another one on the TAPE), an act that can be undone, an image. */
    private static GlacierMail ready() {
        GlacierMail mail = Check.told(VALLEY);
        Check.valley(mail, PEOPLE);
        Check.valley(mail, REST);
        Check.law(mail, longLaw());
        mail.post(0, 1);
        mail.image();
        mail.post(2, 3);
        Check.feedText(mail, longLaw());
        return mail;
    }

    /** A law that fills the TAPE with as many codes as can stand in it: each or1<1 is five of them, and five bytes. */
    private static String longLaw() {
        return "open if1<1" + "or1<1".repeat(78);
    }

    private static void allAreCalled(Map<String, Act> acts) {
        Set<String> names = new TreeSet<>();
        for (Method method : GlacierMail.class.getDeclaredMethods()) {
            if (Modifier.isPublic(method.getModifiers())) {
                names.add(method.getName());
            }
        }
        Check.same("the calls that are tried", new TreeSet<>(acts.keySet()), names);
    }

    private static Map<String, Act> acts() {
        Map<String, Act> acts = new TreeMap<>();
        textActs(acts);
        acts.put("heat", mail -> mail.heat(299));
        acts.put("speed", mail -> mail.speed(5, 98));
        acts.put("flow", mail -> mail.flow(5, 98, 299));
        acts.put("person", mail -> mail.person(1, 5));
        acts.put("letter", mail -> mail.letter(2, 9));
        acts.put("where", mail -> mail.where(2, 299));
        acts.put("deep", mail -> mail.deep(2, 299));
        acts.put("post", mail -> mail.post(1, 2));
        acts.put("watch", mail -> mail.watch(3, 5));
        acts.put("open", mail -> Check.answer(() -> mail.open(2)));
        acts.put("years", mail -> mail.years(50));
        acts.put("throwsFor", mail -> mail.throwsFor(0, 60 + mail.count(9), 299, 2));
        acts.put("latest", mail -> mail.latest(0, 299));
        acts.put("hut", mail -> mail.hut(0, 299));
        acts.put("without", mail -> mail.without(2, 1));
        acts.put("moved", mail -> mail.moved(2));
        acts.put("lost", mail -> mail.lost());
        acts.put("market", mail -> mail.market(true));
        acts.put("passes", mail -> mail.passes(0));
        acts.put("writers", mail -> mail.writers(0, 299, 3));
        acts.put("wrote", mail -> mail.wrote(0, 0, 299, 3));
        acts.put("soonest", mail -> mail.soonest(0, 1, true));
        acts.put("chain", mail -> mail.chain(0, 1, 1));
        acts.put("reached", mail -> mail.reached(0, 299));
        lipActs(acts);
        return acts;
    }

    private static void textActs(Map<String, Act> acts) {
        acts.put("feed", mail -> {
            mail.end(0);
            mail.feed(1, 2, 3, 4, 5);
        });
        acts.put("end", mail -> mail.end(3));
        acts.put("valley", mail -> Check.valley(mail, "seed 9; flood 298 98 20; person 3 98; rock 0 98"));
        acts.put("law", mail -> mail.law());
        acts.put("fault", mail -> mail.fault());
        acts.put("table", mail -> mail.table(1, 5));
        acts.put("apart", mail -> mail.apart(0, 1, -1));
        acts.put("poles", mail -> mail.poles());
        acts.put("fit", mail -> Check.fit(mail, 0, 1, 5, 6));
    }

    private static void lipActs(Map<String, Act> acts) {
        acts.put("thieves", mail -> mail.thieves(30, true));
        acts.put("watchman", mail -> mail.watchman(30, true));
        acts.put("meeting", mail -> mail.meeting(0, 1));
        acts.put("outs", mail -> mail.outs(50));
        acts.put("order", mail -> mail.order(2));
        acts.put("streams", mail -> mail.streams(299, false));
        acts.put("range", mail -> mail.range(0, 0));
        acts.put("swiftest", mail -> mail.swiftest(0, 0));
        acts.put("bare", mail -> mail.bare(299));
        acts.put("log", mail -> mail.log(0, 0));
        acts.put("undo", mail -> mail.undo());
        acts.put("image", mail -> mail.image());
        acts.put("back", mail -> mail.back());
        acts.put("count", mail -> mail.count(15));
    }
}
