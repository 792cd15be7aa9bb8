import java.io.IOException;
import java.lang.reflect.InvocationTargetException;
import java.lang.reflect.Method;
import java.nio.file.Files;
import java.nio.file.Path;
import java.util.ArrayList;
import java.util.List;
import java.util.regex.Matcher;
import java.util.regex.Pattern;

/** What README.md shows holds: the calls of its example answer as it says, and it names every call of the face. */
public final class ReadmeTest {
    private static final Pattern NEW = Pattern.compile("GlacierMail mail = new GlacierMail\\(\\);");
    private static final Pattern TELL = Pattern.compile("tell\\(mail, \"([^\"]*)\"\\);");
    private static final Pattern CALL = Pattern.compile("mail\\.(\\w+)\\(([^)]*)\\); +// (true|false|-?\\d+|\\w+): .+");

    public static void main(String[] args) throws IOException, IllegalAccessException {
        List<List<String>> blocks = blocks(Files.readAllLines(Path.of("README.md")));
        Check.same("the blocks of README.md: how to tell, and the example", blocks.size(), 2);
        String own = Files.readString(Path.of("src/test/java/ReadmeTest.java"));
        String tell = onOneLine(String.join("\n", blocks.get(0)));
        Check.same("tell() stands here as there", onOneLine(own).contains(tell), true);
        example(blocks.get(1));
        names(Files.readString(Path.of("README.md")));
        Check.finish();
    }

    // as README.md has it
    static void tell(GlacierMail mail, String text) {
        mail.end(0);
        for (int i = 0; i < text.length(); i += 20) {
            int[] numbers = new int[5];
            for (int j = i; j < i + 20; j++) {
                int sign = j < text.length() ? text.charAt(j) : 0;
                numbers[(j - i) / 4] = numbers[(j - i) / 4] << 8 | sign;
            }
            mail.feed(numbers[0], numbers[1], numbers[2], numbers[3], numbers[4]);
        }
        mail.end(text.length());
    }

    private static List<List<String>> blocks(List<String> lines) {
        List<List<String>> blocks = new ArrayList<>();
        boolean within = false;
        for (String line : lines) {
            if (line.equals("```java")) {
                blocks.add(new ArrayList<>());
            } else if (within && !line.startsWith("```")) {
                blocks.get(blocks.size() - 1).add(line);
            }
            within = line.startsWith("```") ? line.equals("```java") : within;
        }
        return blocks;
    }

    private static String onOneLine(String text) {
        return text.replaceAll("\\s+", " ").trim();
    }

    private static void example(List<String> lines) throws IllegalAccessException {
        Check.same("the example begins with a new object", NEW.matcher(lines.get(0)).matches(), true);
        GlacierMail mail = new GlacierMail();
        for (String line : lines.subList(1, lines.size())) {
            Matcher tell = TELL.matcher(line);
            Matcher call = CALL.matcher(line);
            if (tell.matches()) {
                tell(mail, tell.group(1));
            } else if (call.matches()) {
                Check.same(line, answer(mail, call.group(1), call.group(2)), call.group(3));
            } else {
                Check.same("README.md: " + line, "a line", "a call with what it answers");
            }
        }
    }

    private static String answer(GlacierMail mail, String name, String args) throws IllegalAccessException {
        String[] parts = args.isEmpty() ? new String[0] : args.split(", ");
        Object[] values = new Object[parts.length];
        for (int i = 0; i < parts.length; i++) {
            boolean truth = parts[i].equals("true") || parts[i].equals("false");
            values[i] = truth ? (Object) Boolean.valueOf(parts[i]) : (Object) Integer.valueOf(parts[i]);
        }
        for (Method method : GlacierMail.class.getMethods()) {
            if (method.getName().equals(name) && method.getParameterCount() == values.length) {
                try {
                    return String.valueOf(method.invoke(mail, values));
                } catch (InvocationTargetException e) {
                    return e.getCause().getClass().getSimpleName();
                }
            }
        }
        return "no such call";
    }

    private static void names(String readme) {
        for (Method method : GlacierMail.class.getMethods()) {
            if (method.getDeclaringClass() == GlacierMail.class) {
                Check.same("README.md names " + method.getName(), readme.contains("`" + method.getName() + "`"), true);
            }
        }
    }
}
