import java.io.IOException;
import java.lang.reflect.Field;
import java.lang.reflect.Method;
import java.lang.reflect.Modifier;
import java.nio.file.Files;
import java.nio.file.Path;
import java.util.ArrayList;
import java.util.List;
import java.util.Set;
import java.util.TreeSet;
import java.util.regex.Pattern;

/** What a machine can plainly see of LANGUAGE.md's rules; FaceTest has rule 1. */
public final class LanguageTest {
    private static final Path FILE = Path.of("src/main/java/FusionRules.java");
    // each with the number of the rule that it would break
    private static final String[][] RULED_OUT = {
        {"2", "->"}, {"2", "::"}, {"3", "\\b(double|float|Object|Map|Set)\\b"}, {"4", "Exact\\b"},
        {"5", "static *\\{"}, {"6", "\\b(try|catch|finally|synchronized|assert|getMessage|hashCode|toString)\\b"},
        {"9", "while *\\(true\\)|for *\\(;;\\)"}, {"13", "\\b(System|Thread|Random|Runtime)\\b"},
    };

    public static void main(String[] args) throws IOException {
        List<String> lines = Files.readAllLines(FILE);
        String code = withoutRemarks(lines);
        for (String[] rule : RULED_OUT) {
            Check.due("rule " + rule[0] + ": " + rule[1], 0, Pattern.compile(rule[1]).matcher(code).find() ? 1 : 0);
        }
        Check.due("rule 4: imports", 1, code.split("\nimport ", -1).length - 1 + (code.startsWith("import ") ? 1 : 0));
        Check.due("rule 4: of Arrays alone", 1, code.contains("import java.util.Arrays;") ? 1 : 0);
        Check.due("rule 6: throws", 1, code.split("\\bthrow\\b", -1).length - 1);
        Check.due("rule 6: of the document", 1, code.contains("throw new ArithmeticException(\"") ? 1 : 0);
        Check.due("rule 11: lines of the longest method", 1, longestMethod(lines) <= 60 ? 1 : 0);
        checkClasses();
        Check.end();
    }

    private static String withoutRemarks(List<String> lines) {
        return String.join("\n", lines).replaceAll("(?s)/\\*.*?\\*/", "").replaceAll("//[^\n]*", "");
    }

    /** A method starts at a line that ends with ") {" at a class's depth, and ends at the next "}" there. */
    private static int longestMethod(List<String> lines) {
        int longest = 0;
        int start = -1;
        String indent = "";
        for (int i = 0; i < lines.size(); i++) {
            String line = lines.get(i);
            if (start < 0 && line.matches(" {4}(?: {4})?[a-z].*\\) (throws \\w+ )?\\{")) {
                start = i;
                indent = line.substring(0, line.length() - line.stripLeading().length());
            } else if (start >= 0 && line.equals(indent + "}")) {
                longest = Math.max(longest, i - start + 1);
                start = -1;
            }
        }
        return longest;
    }

    private static void checkClasses() {
        Set<String> face = new TreeSet<>();
        for (Method method : FusionRules.class.getMethods()) {
            face.add(method.getName());
        }
        List<Class<?>> classes = new ArrayList<>(List.of(FusionRules.class.getDeclaredClasses()));
        for (Class<?> inside : classes) {
            int seen = inside.getModifiers() & (Modifier.PUBLIC | Modifier.PROTECTED);
            Check.due("rule 1: " + inside + " is not public", 0, seen);
            Check.due("rule 1: " + inside + " is static", 1, Modifier.isStatic(inside.getModifiers()) ? 1 : 0);
            for (Method method : inside.getDeclaredMethods()) {
                Check.due("rule 1: the name of " + method, 0, face.contains(method.getName()) ? 1 : 0);
            }
        }
        classes.add(FusionRules.class);
        Check.due("rule 11: classes", 1, classes.size() <= 12 ? 1 : 0);
        for (Class<?> each : classes) {
            checkMembers(each);
        }
    }

    private static void checkMembers(Class<?> each) {
        int fields = 0;
        for (Field field : each.getDeclaredFields()) {
            if (Modifier.isStatic(field.getModifiers())) {
                Check.due("rule 5: " + field + " is final", 1, Modifier.isFinal(field.getModifiers()) ? 1 : 0);
            } else {
                fields++;
            }
        }
        Check.due("rule 11: fields of " + each, 1, fields <= 20 ? 1 : 0);
        for (Method method : each.getDeclaredMethods()) {
            Check.due("rule 11: parameters of " + method, 1, method.getParameterCount() <= 7 ? 1 : 0);
        }
    }
}
