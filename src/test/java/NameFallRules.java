import java.lang.reflect.Method;
import java.lang.reflect.Modifier;
import java.nio.file.Files;
import java.nio.file.Path;
import java.util.Arrays;
import java.util.Random;
import java.util.TreeSet;
import java.util.regex.Matcher;
import java.util.regex.Pattern;

/** The class's face, what LANGUAGE.md forbids in its source, and that no call ever throws. */
public final class NameFallRules {
    private static final String[] FACE = {
        "int feed 5", "int end 1", "int land 0", "int fault 1", "int die 2", "boolean untell 1", "int later 1", "int alive 3",
        "int apart 2", "int near 2", "int may 5", "int judge 5", "int instead 5", "int cost 5", "int grasp 4", "int today 4",
        "int parted 4", "int changes 5", "int renewed 4", "int tell 5", "int told 6", "int safe 2", "int hurt 4", "int child 3",
        "long mean 5", "int wish 3", "int old 2", "int about 1"};
    private static int wrong = 0;

    private static void fail(String text) {
        wrong++;
        System.out.println(text);
    }

    public static void main(String[] args) throws Exception {
        face();
        source();
        for (int seed = 0; seed < 300; seed++) {
            calls(seed);
        }
        System.out.println(wrong == 0 ? "all rules are kept" : wrong + " rules are broken");
        if (wrong != 0) {
            System.exit(1);
        }
    }

    private static void face() {
        TreeSet<String> found = new TreeSet<>();
        TreeSet<String> hidden = new TreeSet<>();
        for (Method m : NameFall.class.getDeclaredMethods()) {
            if (Modifier.isPublic(m.getModifiers())) {
                found.add(m.getReturnType() + " " + m.getName() + " " + m.getParameterCount());
            } else if (!Modifier.isPrivate(m.getModifiers())) {
                fail("not private: " + m);
            } else {
                hidden.add(m.getName());
            }
        }
        if (!found.equals(new TreeSet<>(Arrays.asList(FACE)))) {
            fail("the face is " + found);
        }
        for (String name : FACE) {
            if (hidden.contains(name.split(" ")[1])) {
                fail("a private method is named as a public one: " + name);
            }
        }
        if (!Modifier.isFinal(NameFall.class.getModifiers()) || NameFall.class.getConstructors().length != 1) {
            fail("the class is not final, or has not one constructor");
        }
    }

    private static void source() throws Exception {
        String all = Files.readString(Path.of("src/main/java/NameFall.java"));
        String code = all.replaceAll("(?s)/\\*.*?\\*/", " ").replaceAll("//[^\n]*", " ").replaceAll("\"[^\"]*\"", "\"\"");
        String[] forbidden = {"throw", "throws", "try", "catch", "synchronized", "assert", "import", "package", "protected", "double", "float",
            "Object", "System\\.(?!arraycopy)", "->", "::", "hashCode", "toString", "Exact", "Random", "Thread", "\"\"\\s*\\+", "\\+\\s*\"\""};
        for (String word : forbidden) {
            String edged = Character.isLetter(word.charAt(0)) ? "\\b" + word : word;
            Matcher m = Pattern.compile(edged).matcher(code);
            if (m.find()) {
                fail("forbidden in the source: " + word);
            }
        }
        int longest = 0;
        int begin = 0;
        String[] lines = all.split("\n");
        for (int i = 0; i < lines.length; i++) {
            if (lines[i].matches(" {4,8}[a-zA-Z].*\\) \\{") && !lines[i].contains(" class ")) {
                begin = i;
            } else if (lines[i].matches(" {4}( {4})?\\}") && begin > 0) {
                longest = Math.max(longest, i - begin + 1);
                begin = 0;
            }
        }
        if (longest > 60 || longest < 10) {
            fail("the longest method has " + longest + " lines");
        }
    }

    /** Any arguments in any state: an exception ends the test, as does a call that does not end. */
    private static void calls(int seed) throws Exception {
        Random random = new Random(seed);
        NameFall x = new NameFall();
        Method[] methods = NameFall.class.getMethods();
        Arrays.sort(methods, (a, b) -> a.getName().compareTo(b.getName()));
        String text = "place v custom all alike 3 near 4 years 99 back any;place u custom kin alike 2 near 2 years 9 back own;"
            + "meaning a;meaning b;meaning c;word ab means a at v u;word abc means b at u;turn c a b;turn b c a;"
            + "person p called ab at v born 0;person q called ba at u born 3 of p;person r called abc at v born 9 of q p;talk p q;talk q r;";
        for (int i = 0; i < 512; i++) {
            if (i % 128 == 64) {
                x.end(0);
                feed(x, text);
                x.land();
            }
            Method m = methods[random.nextInt(methods.length)];
            if (m.getDeclaringClass() != NameFall.class) {
                continue;
            }
            Object[] values = new Object[m.getParameterCount()];
            for (int j = 0; j < values.length; j++) {
                values[j] = number(random);
            }
            try {
                m.invoke(x, values);
            } catch (ReflectiveOperationException e) {
                fail("seed " + seed + ": " + m.getName() + Arrays.toString(values) + " threw " + e.getCause());
            }
        }
    }

    private static void feed(NameFall x, String text) {
        StringBuilder padded = new StringBuilder(text);
        while (padded.length() % 20 != 0) {
            padded.append(' ');
        }
        for (int i = 0; i < padded.length(); i += 20) {
            int[] n = new int[5];
            for (int j = 0; j < 20; j++) {
                n[j / 4] = n[j / 4] << 8 | padded.charAt(i + j);
            }
            x.feed(n[0], n[1], n[2], n[3], n[4]);
        }
    }

    private static int number(Random random) {
        int[] edges = {Integer.MIN_VALUE, Integer.MAX_VALUE, -1, -2, 199, 200, 1000, 31, 32, 33554431, 1 << 30};
        return random.nextInt(6) == 0 ? edges[random.nextInt(edges.length)] : random.nextInt(random.nextBoolean() ? 4 : 60);
    }
}
