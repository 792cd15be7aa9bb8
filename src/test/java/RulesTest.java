import java.io.IOException;
import java.lang.reflect.Constructor;
import java.lang.reflect.Field;
import java.lang.reflect.Method;
import java.lang.reflect.Modifier;
import java.nio.file.Files;
import java.nio.file.Path;
import java.util.ArrayList;
import java.util.Arrays;
import java.util.List;
import java.util.Set;
import java.util.TreeSet;
import java.util.regex.Matcher;
import java.util.regex.Pattern;

/** The face of the document, and those rules of LANGUAGE.md that can be seen in the text of the class. */
public final class RulesTest {
    private static final String SOURCE = "src/main/java/GlacierMail.java";

    private static final String[] FACE = {
        "int feed(int,int,int,int,int)", "boolean end(int)", "int valley()", "int law()", "int fault()",
        "int heat(int)", "int speed(int,int)", "int flow(int,int,int)", "int person(int,int)", "int letter(int,int)",
        "int where(int,int)", "int deep(int,int)", "int post(int,int)", "int watch(int,int)", "int open(int)",
        "int years(int)", "int throwsFor(int,int,int,int)", "int latest(int,int)", "int hut(int,int)",
        "int without(int,int)", "int moved(int)", "int lost()", "int market(boolean)", "int passes(int)",
        "int writers(int,int,int)", "int wrote(int,int,int,int)", "int table(int,int)", "boolean apart(int,int,int)",
        "int poles()", "int fit()", "int soonest(int,int,boolean)", "int chain(int,int,int)", "int reached(int,int)",
        "int thieves(int,boolean)", "int watchman(int,boolean)", "int meeting(int,int)", "int outs(int)",
        "int order(int)", "int streams(int,boolean)", "int range(int,int)", "int swiftest(int,int)", "int bare(int)",
        "int log(int,int)", "boolean undo()", "void image()", "boolean back()", "int count(int)",
    };

    public static void main(String[] args) throws IOException {
        face();
        faceAsTold(Files.readString(Path.of(SOURCE)), Files.readAllLines(Path.of("../shared/DOC.md")));
        members();
        text(Files.readAllLines(Path.of(SOURCE)));
        Check.finish();
    }

    private static void face() {
        Set<String> got = new TreeSet<>();
        for (Method method : GlacierMail.class.getDeclaredMethods()) {
            if (!Modifier.isPrivate(method.getModifiers())) {
                StringBuilder types = new StringBuilder();
                for (Class<?> type : method.getParameterTypes()) {
                    types.append(types.length() > 0 ? "," : "").append(type.getName());
                }
                got.add(method.getReturnType().getName() + " " + method.getName() + "(" + types + ")");
                Check.same(method + " is public", Modifier.isPublic(method.getModifiers()), true);
            }
        }
        Check.same("the methods", got, new TreeSet<>(Arrays.asList(FACE)));
        Constructor<?>[] constructors = GlacierMail.class.getDeclaredConstructors();
        Check.same("constructors", constructors.length, 1);
        Check.same("of no arguments", constructors[0].getParameterCount(), 0);
        Check.same("public", Modifier.isPublic(constructors[0].getModifiers()), true);
        Check.same("a final class", Modifier.isFinal(GlacierMail.class.getModifiers()), true);
    }

    /** Each line of the face stands in the class as it is told, above all with what the call throws. */
    private static void faceAsTold(String source, List<String> doc) {
        String text = source.replaceAll("\\s+", " ");
        int told = 0;
        for (String line : doc) {
            if (line.startsWith("    public ")) {
                String due = line.trim();
                boolean method = due.endsWith(");") || due.contains(") throws ");
                Check.same("the class has: " + due,
                        text.contains(method ? due.replaceAll(";$", " {") : due), true);
                told++;
            }
        }
        Check.same("the constant, the constructor, and the calls", told, 2 + FACE.length);
    }

    private static void members() {
        Set<String> names = new TreeSet<>();
        for (String one : FACE) {
            names.add(one.substring(one.indexOf(' ') + 1, one.indexOf('(')));
        }
        List<Class<?>> classes = new ArrayList<>(List.of(GlacierMail.class.getDeclaredClasses()));
        Check.same("at most twelve classes", classes.size() < 12, true);
        classes.add(GlacierMail.class);
        for (Class<?> one : classes) {
            int fields = 0;
            for (Field field : one.getDeclaredFields()) {
                boolean constant = Modifier.isStatic(field.getModifiers());
                fields += constant ? 0 : 1;
                Check.same(field + " is final if static", !constant || Modifier.isFinal(field.getModifiers()), true);
                if (one == GlacierMail.class) {
                    boolean open = field.getName().equals("NONE");
                    Check.same(field + " is private", Modifier.isPrivate(field.getModifiers()), !open);
                }
            }
            Check.same(one + " has at most twenty fields", fields <= 20, true);
            for (Method method : one.getDeclaredMethods()) {
                boolean own = one == GlacierMail.class && Modifier.isPublic(method.getModifiers());
                Check.same(method + " bears no name of the face", own || !names.contains(method.getName()), true);
                Check.same(method + " has at most seven parameters", method.getParameterCount() <= 7, true);
            }
        }
    }

    private static void text(List<String> lines) {
        Pattern none = Pattern.compile("->|::|\\b(catch|try|finally|synchronized|assert|package|volatile|native|record"
                + "|Object|Exact|equals|hashCode|toString|getMessage|Random|Thread|System\\.(?!arraycopy))\\b");
        Pattern imports = Pattern.compile("import java\\.util\\.(Arrays|NoSuchElementException);");
        Pattern thrown = Pattern.compile("throw new (IllegalStateException|IllegalArgumentException"
                + "|IndexOutOfBoundsException|UnsupportedOperationException|NoSuchElementException)"
                + "\\((\"[^\"]*\")?\\);");
        // what a field is made with, or one of the lines told below: the room of one run holds no more (rule 12)
        Pattern makes = Pattern.compile("\\bnew\\b|copyOf|clone\\(|StringBuilder|\\{.*,.*\\};|List\\.of");
        Pattern field = Pattern.compile("^( {4}| {8})(private |static )*final .* = new ");
        List<String> made = new ArrayList<>();
        int begin = 0;
        for (int i = 0; i < lines.size(); i++) {
            String line = lines.get(i);
            String code = line.replaceAll("\"[^\"]*\"", "\"\"").replaceAll("//.*|/\\*\\*.*", "");
            Matcher found = none.matcher(code);
            Check.same("line " + (i + 1) + " is within the rules: " + line, found.find(), false);
            Check.same("line " + (i + 1) + " is not too long", line.length() <= 120, true);
            if (code.startsWith("import")) {
                Check.same("line " + (i + 1), imports.matcher(code).matches(), true);
            }
            if (code.contains("throw new")) {
                Check.same("line " + (i + 1), thrown.matcher(line.trim()).matches(), true);
            } else if (makes.matcher(code).find() && !field.matcher(code).find()) {
                made.add(code.trim());
            }
            // a method begins with four or eight blanks and a brace that opens, and ends with a brace alone
            if (code.matches("( {4}| {8})[a-z].*\\) ?(throws .*)?\\{|( {4}| {8})[a-zA-Z]+\\(.*\\{")) {
                begin = i;
            }
            if (code.matches(" {4}}| {8}}") && i - begin > 62) {
                boolean type = lines.get(begin).contains("class");
                Check.same("the method of line " + (begin + 1) + " is short", type, true);
            }
        }
        Check.same("what is made elsewhere than for a field", made, List.of(
                "this.cells = new int[most * width];", "ahead[i] = new State();",
                "this.words = new Words(text, mostDigits);", "return new Law(lines, Arrays.copyOf(codes, used));"));
    }
}
