import java.lang.reflect.Method;
import java.nio.charset.StandardCharsets;
import java.nio.file.Files;
import java.nio.file.Path;
import java.util.Set;
import java.util.TreeSet;
import java.util.regex.Matcher;
import java.util.regex.Pattern;

/** Makes the calls of README.md's example: each is answered with the number that its comment begins with. */
public final class ReadmeRuns {
    private static final Pattern WRITE = Pattern.compile("write\\(train, \"([^\"]*)\"\\);");
    private static final Pattern CALL = Pattern.compile("train\\.(\\w+)\\(([^)]*)\\); *// (-?\\d+)\\b.*");

    private static int wrong;
    private static YawnTrain train;

    private static void fail(String what) {
        wrong++;
        System.out.println(what);
    }

    private static Method method(String name) {
        for (Method method : YawnTrain.class.getMethods()) {
            if (method.getName().equals(name) && method.getDeclaringClass() == YawnTrain.class) {
                return method;
            }
        }
        throw new IllegalStateException("README.md makes a call that there isn't: " + name);
    }

    private static long answer(String name, String told) throws Exception {
        String[] numbers = told.isEmpty() ? new String[0] : told.split(", ");
        Object[] given = new Object[numbers.length];
        for (int k = 0; k < given.length; k++) {
            given[k] = Integer.valueOf(numbers[k]);
        }
        return ((Number) method(name).invoke(train, given)).longValue();
    }

    private static void write(String text) {
        train.sheet(0, 2, text.length());
        for (int i = 0; i < text.length(); i++) {
            train.put(0, i, text.charAt(i));
        }
    }

    private static void checkExample(String page) throws Exception {
        train = new YawnTrain();
        int calls = 0;
        for (String line : page.split("\n")) {
            Matcher text = WRITE.matcher(line);
            Matcher call = CALL.matcher(line);
            if (text.matches()) {
                write(text.group(1));
            } else if (call.matches()) {
                calls++;
                long got = answer(call.group(1), call.group(2));
                if (got != Long.parseLong(call.group(3))) {
                    fail("README.md: " + line + " -- it answers " + got);
                }
            } else if (line.startsWith("train.") || line.startsWith("write(")) {
                fail("README.md: " + line + " -- can't be read as a call with its answer");
            }
        }
        if (calls == 0) {
            fail("README.md has no calls");
        }
    }

    /** Each call of the face stands in the table of heads, and nothing else. */
    private static void checkTable(String page) {
        Set<String> told = new TreeSet<>();
        Matcher row = Pattern.compile("\\| [1-5] [^|]*\\|([^|]*)\\|").matcher(page);
        while (row.find()) {
            for (String name : row.group(1).replace("`", "").trim().split(" ")) {
                told.add(name);
            }
        }
        Set<String> face = new TreeSet<>();
        for (Method method : YawnTrain.class.getMethods()) {
            if (method.getDeclaringClass() == YawnTrain.class) {
                face.add(method.getName());
            }
        }
        if (!told.equals(face)) {
            fail("README.md tells the calls " + told + ", the face has " + face);
        }
    }

    public static void main(String[] args) throws Exception {
        String page = new String(Files.readAllBytes(Path.of("README.md")), StandardCharsets.UTF_8);
        checkExample(page);
        checkTable(page);
        System.out.println(wrong == 0 ? "the calls of README.md are answered as it tells" : wrong + " are not as it tells");
        if (wrong != 0) {
            System.exit(1);
        }
    }
}
