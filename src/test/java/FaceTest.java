import java.lang.reflect.Constructor;
import java.lang.reflect.Field;
import java.lang.reflect.Method;
import java.lang.reflect.Modifier;
import java.util.TreeSet;

/** The public face, and LANGUAGE.md's rule 1 on what else may be seen. */
public final class FaceTest {
    private static final String[] FACE = {
        "int act(int,int,long)", "int actOf(int,int,int)", "int count(int)", "int fromRow(int,int)",
        "int fuse(int)", "int mean()", "int phase(int)", "int pipe(int,int)", "int ran(int)",
        "int range(int,long,long,int)", "int row(int,int,int)", "int run(int,int)", "int set(int,int,long)",
        "int twin(int,int)", "int why(int,int,int)", "long number(int,int,int)", "long value()",
    };

    public static void main(String[] args) {
        TreeSet<String> seen = new TreeSet<>();
        TreeSet<String> hidden = new TreeSet<>();
        for (Method method : FusionRules.class.getDeclaredMethods()) {
            if (Modifier.isPrivate(method.getModifiers())) {
                hidden.add(method.getName());
            } else {
                seen.add(textOf(method));
                Check.due(method + " is public", 1, Modifier.isPublic(method.getModifiers()) ? 1 : 0);
            }
        }
        Check.due("the face is " + seen, 1, seen.equals(new TreeSet<>(java.util.List.of(FACE))) ? 1 : 0);
        for (Method method : FusionRules.class.getDeclaredMethods()) {
            if (Modifier.isPublic(method.getModifiers())) {
                Check.due("a private " + method.getName(), 0, hidden.contains(method.getName()) ? 1 : 0);
            }
        }
        for (Field field : FusionRules.class.getDeclaredFields()) {
            Check.due(field + " is private", 1, Modifier.isPrivate(field.getModifiers()) ? 1 : 0);
        }
        Constructor<?>[] made = FusionRules.class.getDeclaredConstructors();
        Check.due("constructors", 1, made.length);
        Check.due("it is public", 1, Modifier.isPublic(made[0].getModifiers()) ? 1 : 0);
        Check.due("the class is final", 1, Modifier.isFinal(FusionRules.class.getModifiers()) ? 1 : 0);
        Check.end();
    }

    private static String textOf(Method method) {
        StringBuilder text = new StringBuilder(method.getReturnType() + " " + method.getName() + "(");
        String comma = "";
        for (Class<?> type : method.getParameterTypes()) {
            text.append(comma).append(type);
            comma = ",";
        }
        return text.append(')').toString();
    }
}
