import java.lang.reflect.Method;
import java.lang.reflect.Modifier;
import java.nio.file.Files;
import java.nio.file.Path;
import java.util.ArrayList;
import java.util.List;
import java.util.TreeSet;
import java.util.regex.Matcher;
import java.util.regex.Pattern;

/** README.md: its functions are those below, and its calls answer what it says. */
public final class NameFallReadme {
    private static final Pattern CALL = Pattern.compile("x\\.(\\w+)\\(([-0-9, ]*)\\);\\s+// (-?\\d+|true|false): .*");
    private static int wrong = 0;

    private static void fail(String text) {
        wrong++;
        System.out.println(text);
    }

    public static void main(String[] args) throws Exception {
        String readme = Files.readString(Path.of("README.md"));
        List<String> texts = blocks(readme, "text");
        List<String> codes = blocks(readme, "java");
        if (texts.isEmpty() || codes.size() != 2) {
            fail("README.md has no land, or not two pieces of code");
        } else {
            functions(codes.get(0));
            calls(texts.get(0), codes.get(1), readme);
        }
        System.out.println(wrong == 0 ? "README.md tells what is so" : wrong + " things in README.md are not so");
        if (wrong != 0) {
            System.exit(1);
        }
    }

    private static List<String> blocks(String page, String kind) {
        List<String> found = new ArrayList<>();
        Matcher m = Pattern.compile("(?s)```" + kind + "\n(.*?)```").matcher(page);
        while (m.find()) {
            found.add(m.group(1));
        }
        return found;
    }

    private static void functions(String code) throws Exception {
        String own = Files.readString(Path.of("src/test/java/NameFallReadme.java"));
        String indented = code.replaceAll("(?m)^(?=.)", "    ");
        if (!own.contains(indented)) {
            fail("the functions in README.md are not those that are tested");
        }
    }

    private static void calls(String land, String code, String readme) throws Exception {
        NameFall x = new NameFall();
        int lines = read(x, land);
        if (!readme.contains("how many lines there are (here " + lines + ")")) {
            fail("the land in README.md has " + lines + " lines");
        }
        TreeSet<String> untried = new TreeSet<>();
        for (Method m : NameFall.class.getDeclaredMethods()) {
            if (Modifier.isPublic(m.getModifiers())) {
                untried.add(m.getName());
            }
        }
        untried.removeAll(List.of("feed", "end", "land"));
        for (String line : code.split("\n")) {
            Matcher m = CALL.matcher(line);
            if (m.matches()) {
                call(x, line, m);
                untried.remove(m.group(1));
            } else if (!line.isEmpty()) {
                fail("no call: " + line);
            }
        }
        if (!untried.isEmpty()) {
            fail("README.md shows no " + untried);
        }
    }

    private static void call(NameFall x, String line, Matcher m) throws Exception {
        String[] parts = m.group(2).split(", ");
        Object[] numbers = new Object[parts.length];
        for (int i = 0; i < parts.length; i++) {
            numbers[i] = Integer.valueOf(parts[i]);
        }
        for (Method method : NameFall.class.getDeclaredMethods()) {
            if (method.getName().equals(m.group(1)) && method.getParameterCount() == numbers.length) {
                Object answer = method.invoke(x, numbers);
                if (!String.valueOf(answer).equals(m.group(3))) {
                    fail("answered " + answer + ": " + line);
                }
                return;
            }
        }
        fail("there is no such call: " + line);
    }

    static int read(NameFall x, String text) {
        x.end(0);
        for (int i = 0; i < text.length(); i += 20) {
            x.feed(four(text, i), four(text, i + 4), four(text, i + 8), four(text, i + 12), four(text, i + 16));
        }
        x.end(text.length());
        return x.land();
    }

    static int four(String text, int from) {
        int number = 0;
        for (int i = from; i < from + 4; i++) {
            number = number << 8 | (i < text.length() ? text.charAt(i) : ' ');
        }
        return number;
    }
}
