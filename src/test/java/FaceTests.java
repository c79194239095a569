import java.io.IOException;
import java.lang.reflect.Constructor;
import java.lang.reflect.Field;
import java.lang.reflect.Method;
import java.lang.reflect.Modifier;
import java.nio.file.Files;
import java.nio.file.Path;
import java.util.ArrayList;
import java.util.Arrays;
import java.util.List;
import java.util.Set;
import java.util.TreeSet;
import java.util.regex.Matcher;
import java.util.regex.Pattern;

/** The face is the document's, and the source keeps to the rules of the language that can be seen from outside. */
public final class FaceTests {
    private static final String[] FACE = {
        "int dog(int, int, int)", "int set(int, int, int)", "int told(int, int)", "int asks(int, int, int)",
        "int feed(int)", "int text()", "int force(int)", "int cross(int, int)", "int undo()", "int comb()",
        "int at(int)", "int left(int)", "int who(int, int)", "int without(int)", "int unclip(int)", "int cost()",
        "int atOdds(int)", "int best(int)", "int swaps(int)", "int post(int, int)", "int bestPost(int)",
        "int seen(int, int, int)", "int fetch()", "int fetched(int)", "int walk()", "int take(int)",
        "int drawn(int, int)", "long chance(int, int, int, int, int)", "int image()", "int back()", "int count(int)",
        "int sheet(int, int, int)", "int cell(int, int, int)", "int copy(int, int, int, int, int)",
        "int crossings(int, int, int, int)", "int taken(int, int)"};
    private static final int MOST_LINES = 60, MOST_PARAMETERS = 7, MOST_FIELDS = 20, MOST_CLASSES = 12;
    private static int wrong = 0;

    private static void holds(boolean so, String what) {
        if (!so) {
            wrong++;
            System.out.println("not so: " + what);
        }
    }

    public static void main(String[] args) throws IOException {
        face();
        insides();
        source(Files.readString(Path.of("src/main/java/DogsOnLeads.java")));
        System.out.println(wrong == 0 ? "the face and the source are as ruled" : wrong + " things are not as ruled");
        if (wrong != 0) System.exit(1);
    }

    private static void face() {
        Class<?> c = DogsOnLeads.class;
        holds(c.getModifiers() == (Modifier.PUBLIC | Modifier.FINAL), "public final class");
        Set<String> publics = new TreeSet<>();
        Set<String> names = new TreeSet<>();
        for (Method m : c.getDeclaredMethods()) {
            if (!Modifier.isPublic(m.getModifiers())) {
                holds(Modifier.isPrivate(m.getModifiers()), m + " is private");
                continue;
            }
            StringBuilder b = new StringBuilder(m.getReturnType() + " " + m.getName() + "(");
            for (Class<?> p : m.getParameterTypes()) b.append(b.charAt(b.length() - 1) == '(' ? "" : ", ").append(p);
            publics.add(b.append(")").toString());
            names.add(m.getName());
        }
        holds(publics.equals(new TreeSet<>(Arrays.asList(FACE))), "the public methods: " + publics);
        for (Class<?> inner : all())
            for (Method m : inner.getDeclaredMethods())
                holds(!Modifier.isPrivate(m.getModifiers()) || !names.contains(m.getName()), m + " has a name of its own");
        Constructor<?>[] made = c.getDeclaredConstructors();
        holds(made.length == 1 && made[0].getParameterCount() == 0 && Modifier.isPublic(made[0].getModifiers()),
                "one public constructor");
        Set<String> constants = new TreeSet<>();
        for (Field f : c.getDeclaredFields()) {
            if (Modifier.isPublic(f.getModifiers())) constants.add(f.getType() + " " + f.getName());
            else holds(Modifier.isPrivate(f.getModifiers()), f + " is private");
        }
        holds(constants.equals(Set.of("int NONE", "int BAD", "int STATE", "int FULL", "long NO")), "the constants");
        holds(DogsOnLeads.NONE == -1 && DogsOnLeads.BAD == -2 && DogsOnLeads.STATE == -3 && DogsOnLeads.FULL == -4
                && DogsOnLeads.NO == -4611686018427387904L, "what the constants are");
    }

    private static List<Class<?>> all() {
        List<Class<?>> classes = new ArrayList<>(List.of(DogsOnLeads.class));
        classes.addAll(Arrays.asList(DogsOnLeads.class.getDeclaredClasses()));
        return classes;
    }

    private static void insides() {
        holds(all().size() <= MOST_CLASSES, "no more classes than ruled");
        for (Class<?> c : all()) {
            holds(c == DogsOnLeads.class || Modifier.isStatic(c.getModifiers()), c + " is static");
            int fields = 0;
            for (Field f : c.getDeclaredFields()) {
                if (Modifier.isStatic(f.getModifiers())) holds(Modifier.isFinal(f.getModifiers()), f + " is final");
                else fields++;
            }
            holds(fields <= MOST_FIELDS, c + " has no more fields than ruled");
            for (Method m : c.getDeclaredMethods())
                holds(m.getParameterCount() <= MOST_PARAMETERS, m + " has no more parameters than ruled");
        }
    }

    private static void source(String source) {
        String code = source.replaceAll("(?s)/\\*.*?\\*/", "").replaceAll("//[^\n]*", "").replaceAll("\"[^\"\n]*\"", "\"\"");
        for (String word : new String[] {"throw", "throws", "try", "catch", "finally", "synchronized", "assert", "import",
            "package", "volatile", "native", "strictfp", "protected", "instanceof"})
            holds(!Pattern.compile("\\b" + word + "\\b").matcher(code).find(), "no " + word);
        holds(!code.contains("->") && !code.contains("::"), "no lambda, no method reference");
        holds(!Pattern.compile("\\bwhile \\(true\\)|for \\(;;\\)").matcher(code).find(), "no loop without an end");
        Matcher calls = Pattern.compile("\\b(Math|Integer|Long|System|Arrays)\\.(\\w+)").matcher(code);
        Set<String> listed = Set.of("Math.min", "Math.max", "Math.abs", "Integer.bitCount", "System.arraycopy");
        while (calls.find()) holds(listed.contains(calls.group()), calls.group() + " is of the library that is listed");
        int begun = -1;
        String[] lines = code.split("\n");
        for (int i = 0; i < lines.length; i++) {
            if (lines[i].matches(" +[\\w\\[\\] ]+\\([\\w\\[\\], ]*\\) \\{") && !lines[i].contains("else")) begun = i;
            if (lines[i].matches(" {4}(    )?\\}") && begun >= 0) {
                holds(i - begun < MOST_LINES, "the method at line " + (begun + 1) + " is short");
                begun = -1;
            }
            // All rows are made with the object, so that no call costs room.
            if (lines[i].contains("new ")) {
                boolean isField = lines[i].matches(" +(private )?final .*= new .*;");
                boolean isConstructor = lines[i].matches(" +(texts|sheets)\\[i\\] = new .*;");
                holds(isField || isConstructor, "made with the object: " + lines[i].trim());
            }
        }
    }
}
