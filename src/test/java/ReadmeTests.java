import java.io.IOException;
import java.lang.reflect.Method;
import java.lang.reflect.Modifier;
import java.nio.file.Files;
import java.nio.file.Path;
import java.util.Set;
import java.util.TreeSet;
import java.util.regex.Matcher;
import java.util.regex.Pattern;

/** What README.md tells of the class is so: each answer in its Java, and no call is left out of it. */
public final class ReadmeTests {
    private static final Pattern CALL = Pattern.compile("x\\.(\\w+)\\(([-\\d, ]*)\\); +// (-?\\d+)(:.*)?");
    private static final Pattern FEED = Pattern.compile("for \\(char c : \"([^\"]*)\"\\.toCharArray\\(\\)\\) x\\.feed\\(c\\);");
    private static final String MADE = "DogsOnLeads x = new DogsOnLeads();";

    private static final Set<String> told = new TreeSet<>();
    private static DogsOnLeads x = new DogsOnLeads();
    private static int wrong = 0;

    private static void notSo(String what) {
        wrong++;
        System.out.println("not so: " + what);
    }

    public static void main(String[] args) throws IOException, ReflectiveOperationException {
        boolean isJava = false;
        for (String line : Files.readString(Path.of("README.md")).split("\n")) {
            if (line.startsWith("```")) isJava = line.equals("```java");
            else if (isJava && !line.isBlank()) read(line);
        }
        for (String name : calls())
            if (!told.contains(name)) notSo("README.md shows " + name);
        System.out.println(wrong == 0 ? "README.md tells what is so" : wrong + " things in README.md are not so");
        if (wrong != 0) System.exit(1);
    }

    private static void read(String line) throws ReflectiveOperationException {
        Matcher call = CALL.matcher(line);
        Matcher feed = FEED.matcher(line);
        if (line.equals(MADE)) {
            x = new DogsOnLeads();
        } else if (feed.matches()) {
            told.add("feed");
            for (char c : feed.group(1).toCharArray()) x.feed(c);
        } else if (call.matches()) {
            told.add(call.group(1));
            long answer = answer(call.group(1), call.group(2));
            if (answer != Long.parseLong(call.group(3))) notSo(line + " (it answers " + answer + ")");
        } else {
            notSo("this line can be read: " + line);
        }
    }

    private static long answer(String name, String list) throws ReflectiveOperationException {
        String[] words = list.isBlank() ? new String[0] : list.split(", ");
        Object[] numbers = new Object[words.length];
        for (int i = 0; i < words.length; i++) numbers[i] = Integer.parseInt(words[i]);
        for (Method m : DogsOnLeads.class.getDeclaredMethods())
            if (Modifier.isPublic(m.getModifiers()) && m.getName().equals(name))
                return ((Number) m.invoke(x, numbers)).longValue();
        throw new NoSuchMethodException(name);
    }

    private static Set<String> calls() {
        Set<String> names = new TreeSet<>();
        for (Method m : DogsOnLeads.class.getDeclaredMethods())
            if (Modifier.isPublic(m.getModifiers())) names.add(m.getName());
        return names;
    }
}
