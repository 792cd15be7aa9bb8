import java.lang.reflect.InvocationTargetException;
import java.lang.reflect.Method;
import java.lang.reflect.Modifier;
import java.nio.charset.StandardCharsets;
import java.util.ArrayList;
import java.util.Arrays;
import java.util.Comparator;
import java.util.List;
import java.util.Random;

/** All promises: random runs of calls on the class and on the slow model must answer alike. */
public final class ModelTest {
    private static final String[] FACTS = {"lane", "row", "year", "heat", "speed", "person", "age", "deep"};
    private static final String JUNK = " ;()<>+0189aeilnostf.A\n";
    // the document: what later calls answer is free; a text is told by 24 calls at most
    private static final int MOST_CALLS = 512;
    private static final int CALLS_OF_A_TEXT = 24;

    private final Random random;
    private final GlacierMail mail = new GlacierMail();
    private final Model model = new Model();
    private final List<String> calls = new ArrayList<>();
    private int called = 0;

    private ModelTest(long seed) {
        random = new Random(seed);
    }

    public static void main(String[] args) {
        int runs = args.length > 0 ? Integer.parseInt(args[0]) : 150;
        int first = args.length > 1 ? Integer.parseInt(args[1]) : 0;
        for (int seed = first; seed < first + runs; seed++) {
            boolean right = new ModelTest(seed).run(seed % 3 == 0);
            Check.same("the run of seed " + seed + " is right", right, true);
        }
        Check.finish();
    }

    private static List<Method> face() {
        List<Method> face = new ArrayList<>();
        for (Method method : GlacierMail.class.getDeclaredMethods()) {
            if (Modifier.isPublic(method.getModifiers())) {
                face.add(method);
            }
        }
        face.sort(Comparator.comparing(Method::getName));
        return face;
    }

    private boolean run(boolean wild) {
        List<Method> face = face();
        if (!tell("valley", wild ? valleyText() : opening()) || !tell("law", random.nextInt(3) == 0 ? "" : passing())) {
            return false;
        }
        // now and then so late that not all can come out any more
        for (int i = random.nextInt(4) == 0 ? random.nextInt(6) : 0; i > 0; i--) {
            if (!call("years", i == 5 ? 49 : 50)) {
                return false;
            }
        }
        while (called < MOST_CALLS) {
            int kind = random.nextInt(40);
            boolean right;
            if (called + CALLS_OF_A_TEXT > MOST_CALLS) {
                right = anyCall(face.get(random.nextInt(face.size())));
            } else if (kind == 0) {
                right = tell("valley", mangled(valleyText()));
            } else if (kind == 1) {
                right = tell("law", mangled(lawText()));
            } else if (kind == 2) {
                right = tell("fit", readings());
            } else if (kind < 7) {
                right = call("post", person(), person());
            } else if (kind < 9) {
                right = call("years", 1 + random.nextInt(random.nextInt(20) == 0 ? 60 : 3));
            } else if (kind < 11) {
                right = call("watch", person(), random.nextInt(count(0) + 1) - 1);
            } else if (kind == 11) {
                right = call("open", below(count(4)));
            } else {
                right = anyCall(face.get(random.nextInt(face.size())));
            }
            if (!right) {
                return false;
            }
        }
        return true;
    }

    // ---- calls ----

    private boolean anyCall(Method method) {
        String name = method.getName();
        if (name.equals("back") && random.nextInt(4) > 0) {
            return true;
        }
        Object[] args = new Object[method.getParameterCount()];
        for (int i = 0; i < args.length; i++) {
            args[i] = method.getParameterTypes()[i] == boolean.class ? (Object) random.nextBoolean()
                    : (Object) argument(name, i, args.length);
        }
        return call(name, args);
    }

    /** Mostly a number that can be one of that call, now and then any. */
    private int argument(String name, int i, int many) {
        int odd = random.nextInt(25);
        if (odd == 0) {
            int[] edges = {-1, 0, 1, 6, 8, 24, 30, 31, 39, 40, 99, 100, 298, 299, 300, 301, Integer.MAX_VALUE,
                Integer.MIN_VALUE};
            return edges[random.nextInt(edges.length)];
        }
        switch (name) {
            case "heat", "outs", "streams", "bare": return year();
            case "speed", "hut", "range": return i == 0 ? below(count(0)) : name.equals("speed") ? row() : year();
            case "flow": return i == 0 ? below(count(0)) : i == 1 ? row() : year();
            case "person": return i == 0 ? below(count(3)) : random.nextInt(6);
            case "letter": return i == 0 ? below(count(4)) : random.nextInt(10);
            case "where", "deep": return i == 0 ? below(count(4)) : year();
            case "throwsFor": return i == 0 ? below(count(0)) : i == 3 ? random.nextInt(3) : count(9) + random.nextInt(20);
            case "latest", "reached": return i == 0 ? below(count(3)) : year();
            case "without": return below(count(i == 0 ? 4 : 5));
            case "moved", "passes", "meeting": return below(count(4));
            case "writers": return i == 0 ? below(count(0)) : i == 1 ? year() : random.nextInt(random.nextBoolean() ? 2 : 20);
            case "wrote": return i == 0 ? below(count(3)) : i == 1 ? below(count(0)) : i == 2 ? year()
                    : random.nextInt(random.nextBoolean() ? 2 : 20);
            case "table": return below(count(i == 0 ? 6 : 0));
            case "apart": return i < 2 ? below(count(6)) : random.nextInt(130) - 1;
            case "soonest", "chain", "post": return i < 2 ? below(count(3)) : random.nextInt(5);
            case "swiftest": return i == 0 ? row() : year();
            case "thieves", "watchman": return 1 + random.nextInt(30);
            case "log": return i == 0 ? random.nextInt(6) : random.nextInt(3);
            case "count": return random.nextInt(19);
            case "order": return random.nextInt(8);
            case "end": return random.nextInt(401);
            case "feed": return random.nextInt();
            default: return random.nextInt(10);
        }
    }

    private int count(int what) {
        return model.told(what);
    }

    private int below(int n) {
        return n < 1 ? 0 : random.nextInt(n);
    }

    private int person() {
        return random.nextInt(30) == 0 ? 8 : below(count(3));
    }

    private int year() {
        return random.nextInt(4) == 0 ? random.nextInt(300) : Math.min(299, count(9) + random.nextInt(30));
    }

    private int row() {
        return random.nextInt(count(1));
    }

    private boolean call(String name, Object... args) {
        called++;
        Object got = answer(mail, GlacierMail.class, name, args);
        Object due = answer(model, Model.class, name, args);
        calls.add(name + Arrays.toString(args) + " = " + due);
        boolean right = String.valueOf(got).equals(String.valueOf(due));
        if (!right) {
            System.out.println(String.join("\n", calls));
            System.out.println("    but it answered " + got);
        }
        return right;
    }

    private static Object answer(Object object, Class<?> type, String name, Object[] args) {
        for (Method method : type.getDeclaredMethods()) {
            if (method.getName().equals(name) && method.getParameterCount() == args.length) {
                try {
                    method.setAccessible(true);
                    return method.invoke(object, args);
                } catch (InvocationTargetException e) {
                    return e.getCause().getClass().getSimpleName();
                } catch (IllegalAccessException e) {
                    return e.toString();
                }
            }
        }
        return "no such call";
    }

    private boolean tell(String reader, String text) {
        calls.add("the text of the next call: '" + text + "'");
        byte[] bytes = text.getBytes(StandardCharsets.ISO_8859_1);
        boolean right = call("end", 0);
        for (int i = 0; i < bytes.length && right; i += 20) {
            Object[] numbers = new Object[5];
            for (int j = 0; j < 5; j++) {
                int number = 0;
                for (int k = i + 4 * j; k < i + 4 * j + 4; k++) {
                    number = number << 8 | (k < bytes.length ? bytes[k] & 255 : 32);
                }
                numbers[j] = number;
            }
            right = call("feed", numbers);
        }
        return right && call("end", bytes.length) && call(reader) && call("fault");
    }

    // ---- texts ----

    private String number(int least, int most) {
        int wide = random.nextInt(60);
        if (wide == 0) {
            return String.valueOf(most + 1);
        }
        return String.valueOf(least + random.nextInt(Math.max(1, most - least + 1)));
    }

    private String speeds(int lanes, int most) {
        StringBuilder speeds = new StringBuilder();
        for (int i = 0; i < lanes; i++) {
            speeds.append(' ').append(number(random.nextInt(4) == 0 ? 0 : 1, most));
        }
        return speeds.toString();
    }

    /** A valley in which all can go on. */
    private String opening() {
        int lanes = 1 + random.nextInt(4);
        int last = 10 + random.nextInt(random.nextBoolean() ? 20 : 89);
        StringBuilder text = new StringBuilder("lanes " + lanes + ";last " + last + ";section 0" + speeds(lanes, 5));
        int row = 0;
        for (int i = random.nextInt(3); i > 0 && row + 3 < last; i--) {
            row += 1 + random.nextInt(last - row - 2);
            text.append(";section ").append(row).append(speeds(lanes, 9));
        }
        for (int i = 1 + random.nextInt(6); i > 0; i--) {
            text.append(";").append(person(lanes, last));
        }
        for (int i = random.nextInt(3); i > 0; i--) {
            text.append(";rock ").append(random.nextInt(lanes)).append(" ").append(random.nextInt(last));
        }
        if (random.nextBoolean()) {
            text.append(";flood ").append(random.nextInt(20)).append(" ").append(random.nextInt(last)).append(" 4");
        }
        if (random.nextBoolean()) {
            text.append(";seed ").append(random.nextInt(10000));
        }
        if (random.nextBoolean()) {
            text.append(";table").append(speeds(lanes, 3)).append(";table").append(speeds(lanes, 3));
        }
        return text.toString();
    }

    private String person(int lanes, int last) {
        return "person " + number(0, lanes - 1) + " " + number(0, last - 1)
                + (random.nextInt(4) > 0 ? " watch " + number(0, lanes - 1) : "");
    }

    private String valleyText() {
        List<String> lines = new ArrayList<>();
        int lanes = count(0);
        int last = count(1);
        int section = 0;
        for (int i = random.nextInt(random.nextInt(8) == 0 ? 16 : 6); i > 0; i--) {
            switch (random.nextInt(12)) {
                case 0 -> lines.add("lanes " + number(1, 6));
                case 1 -> lines.add("last " + number(10, 99));
                case 2 -> {
                    lines.add("section " + (section == 0 && count(2) > 0 ? number(1, last - 1) : section) + speeds(lanes, 8));
                    section += 7;
                }
                case 3 -> lines.add("snow " + number(0, last - 1) + " fall " + number(0, 9));
                case 4 -> lines.add("stripe " + number(0, lanes));
                case 5 -> lines.add("seed " + number(0, 9999));
                case 6, 7 -> lines.add("flood " + number(count(9), Math.min(299, count(9) + 20)) + " "
                        + number(0, last - 1) + " " + number(1, 20));
                case 8 -> lines.add(person(lanes, last));
                case 9, 10 -> lines.add("rock " + number(0, lanes - 1) + " " + number(0, last - 1));
                default -> lines.add("table" + speeds(lanes, 2));
            }
        }
        return String.join(random.nextBoolean() ? ";" : " ; ", lines);
    }

    /** A law by which what lies behind may pass what lies ahead. */
    private String passing() {
        return "fast " + random.nextInt(9) + " if row < " + random.nextInt(30) + ";slow " + random.nextInt(5)
                + " if row > " + random.nextInt(30) + " and heat > " + random.nextInt(10) + ";open if "
                + condition(3);
    }

    private String lawText() {
        List<String> lines = new ArrayList<>();
        for (int i = random.nextInt(random.nextInt(8) == 0 ? 14 : 5); i > 0; i--) {
            int kind = random.nextInt(3);
            String line = kind == 0 ? "fast " + number(0, 4) : kind == 1 ? "slow " + number(0, 4) : "open";
            lines.add(line + (random.nextInt(4) > 0 ? " if " + condition(0) : ""));
        }
        String text = String.join(random.nextBoolean() ? ";" : " ; ", lines);
        return text.length() > 400 ? text.substring(0, 400) : text;
    }

    private String condition(int deep) {
        int kind = random.nextInt(deep < 8 ? 14 : 6);
        switch (kind) {
            case 0: return "side";
            case 1: return "first";
            case 2, 3, 4, 5: return sum() + (random.nextBoolean() ? " < " : ">") + sum();
            case 6, 7, 8: return "not " + (random.nextBoolean() ? condition(deep + 1) : "(" + condition(deep + 2) + ")");
            case 9, 10: return "(" + condition(deep + 1) + ")";
            case 11, 12: return condition(deep + 1) + " and " + condition(deep + 1);
            default: return condition(deep + 1) + " or " + condition(deep + 1);
        }
    }

    private String sum() {
        String part = random.nextBoolean() ? FACTS[random.nextInt(FACTS.length)] : number(0, random.nextBoolean() ? 9 : 99);
        return random.nextInt(4) == 0 ? part + (random.nextBoolean() ? "+" : " + ") + sum() : part;
    }

    private String readings() {
        StringBuilder text = new StringBuilder();
        for (int i = random.nextInt(4); i > 0; i--) {
            text.append((char) below(count(0))).append((char) random.nextInt(random.nextInt(9) == 0 ? 256 : 4));
        }
        return random.nextInt(9) == 0 ? text + "x" : text.toString();
    }

    private String mangled(String text) {
        StringBuilder odd = new StringBuilder(text);
        for (int i = random.nextInt(3) == 0 ? 1 + random.nextInt(2) : 0; i > 0; i--) {
            int place = random.nextInt(odd.length() + 1);
            char junk = random.nextInt(20) == 0 ? (char) random.nextInt(256) : JUNK.charAt(random.nextInt(JUNK.length()));
            if (random.nextBoolean() || place == odd.length()) {
                odd.insert(place, junk);
            } else if (random.nextBoolean()) {
                odd.setCharAt(place, junk);
            } else {
                odd.setLength(place);
            }
        }
        if (odd.length() > 400) {
            odd.setLength(400);
        }
        return odd.toString();
    }
}
