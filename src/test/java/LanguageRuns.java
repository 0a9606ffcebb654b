import java.lang.reflect.Field;
import java.lang.reflect.Method;
import java.lang.reflect.Modifier;
import java.nio.charset.StandardCharsets;
import java.nio.file.Files;
import java.nio.file.Path;
import java.util.Arrays;
import java.util.Set;
import java.util.TreeSet;
import java.util.regex.Matcher;
import java.util.regex.Pattern;

/** Whether the class has the document's face and nothing beside it, and keeps to the rules of ../shared/LANGUAGE.md that a text can show. */
public final class LanguageRuns {
    private static int wrong;

    private static void fail(String what) {
        wrong++;
        System.out.println(what);
    }

    private static String read(String path) throws Exception {
        return new String(Files.readAllBytes(Path.of(path)), StandardCharsets.UTF_8);
    }

    /** "int back(int)" and so on, as the document's face tells them. */
    private static Set<String> toldFace() throws Exception {
        Set<String> face = new TreeSet<>();
        Matcher m = Pattern.compile("public (int|long) (\\w+)\\(([^)]*)\\);").matcher(read("../shared/DOC.md"));
        while (m.find()) {
            String types = m.group(3).replaceAll("(int|boolean) \\w+", "$1").replace(" ", "");
            face.add(m.group(1) + " " + m.group(2) + "(" + types + ")");
        }
        return face;
    }

    private static void checkFace() throws Exception {
        Set<String> face = new TreeSet<>();
        Set<String> names = new TreeSet<>();
        for (Method method : YawnTrain.class.getDeclaredMethods()) {
            if (method.isSynthetic()) {
                continue;
            }
            if (Modifier.isPublic(method.getModifiers())) {
                names.add(method.getName());
                String types = Arrays.toString(method.getParameterTypes()).replaceAll("[\\[\\] ]", "");
                face.add(method.getReturnType() + " " + method.getName() + "(" + types + ")");
            } else if (!Modifier.isPrivate(method.getModifiers())) {
                fail("rule 1: " + method + " is neither public nor private");
            }
        }
        if (!face.equals(toldFace()) || face.size() != 38) {
            fail("rule 1: the face is " + face + ", the document's " + toldFace());
        }
        for (Class<?> inner : YawnTrain.class.getDeclaredClasses()) {
            for (Method method : inner.getDeclaredMethods()) {
                if (names.contains(method.getName())) {
                    fail("rule 1: " + method + " bears the name of a public one");
                }
            }
        }
        for (Method method : YawnTrain.class.getDeclaredMethods()) {
            if (Modifier.isPrivate(method.getModifiers()) && names.contains(method.getName())) {
                fail("rule 1: " + method + " bears the name of a public one");
            }
        }
        Set<String> constants = Set.of("UNKNOWN", "OUTSIDE", "STATE", "FULL", "NONE", "LOST");
        for (Field field : YawnTrain.class.getDeclaredFields()) {
            if (!Modifier.isPrivate(field.getModifiers()) != constants.contains(field.getName())) {
                fail("rule 1: " + field);
            }
        }
    }

    private static void checkClasses() {
        Class<?>[] inner = YawnTrain.class.getDeclaredClasses();
        if (inner.length > 11) {
            fail("rule 11: " + (inner.length + 1) + " classes");
        }
        for (Class<?> one : inner) {
            if (!Modifier.isStatic(one.getModifiers()) && !one.isInterface()) {
                fail("rule 2: " + one + " isn't static");
            }
            checkFields(one);
        }
        checkFields(YawnTrain.class);
    }

    private static void checkFields(Class<?> one) {
        int fields = 0;
        for (Field field : one.getDeclaredFields()) {
            if (Modifier.isStatic(field.getModifiers())) {
                if (!Modifier.isFinal(field.getModifiers())) {
                    fail("rule 5: " + field);
                }
            } else {
                fields++;
            }
        }
        if (fields > 20) {
            fail("rule 11: " + one + " has " + fields + " fields");
        }
    }

    private static void checkText() throws Exception {
        String text = read("src/main/java/YawnTrain.java");
        for (int i = 0; i < text.length(); i++) {
            if (text.charAt(i) > 126) {
                fail("rule 4: a sign above 126 at " + i);
            }
        }
        String code = text.replaceAll("(?s)/\\*.*?\\*/", "").replaceAll("//[^\n]*", "");
        String[] barred = {"\\bthrows?\\b", "\\btry\\b", "\\bcatch\\b", "\\bfinally\\b", "\\bsynchronized\\b", "\\bassert\\b",
            "\\bimport\\b", "\\bpackage\\b", "->", "::", "@", "\\bstatic\\s*\\{", "\\bvar\\b", "\\bObject\\b", "\\bthread\\b",
            "Exact\\b", "\\bequals\\b", "\\bhashCode\\b", "\\btoString\\b", "\\bException\\b"};
        for (String word : barred) {
            if (Pattern.compile(word).matcher(code).find()) {
                fail("LANGUAGE.md leaves out: " + word);
            }
        }
        Matcher library = Pattern.compile("\\b(Math|System|Integer|Long|Arrays|List|ArrayList)\\.(\\w+)").matcher(code);
        Set<String> left = Set.of("Math.max", "Math.min", "Math.abs", "System.arraycopy", "Long.MIN_VALUE");
        while (library.find()) {
            if (!left.contains(library.group())) {
                fail("rule 4: " + library.group());
            }
        }
        checkLengths(text);
    }

    private static void checkLengths(String text) {
        int from = 0;
        String[] lines = text.split("\n");
        for (int i = 0; i < lines.length; i++) {
            if (lines[i].length() > 120) {
                fail("line " + (i + 1) + " is long");
            }
            if (lines[i].matches(" {4}( {4})?\\w.*\\) \\{")) {
                from = i;
            }
            if (lines[i].matches(" {4}( {4})?\\}") && i - from > 60) {
                fail("rule 11: a method from line " + (from + 1) + " on has " + (i - from) + " lines");
            }
        }
    }

    public static void main(String[] args) throws Exception {
        checkFace();
        checkClasses();
        checkText();
        System.out.println(wrong == 0 ? "the class keeps to its face and language" : wrong + " rules are broken");
        if (wrong != 0) {
            System.exit(1);
        }
    }
}
