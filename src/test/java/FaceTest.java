import java.lang.reflect.Constructor;
import java.lang.reflect.Field;
import java.lang.reflect.Method;
import java.lang.reflect.Modifier;
import java.util.Arrays;
import java.util.Set;
import java.util.TreeSet;

/** The public face is the document's, and nothing else of the class can be seen from outside. */
public final class FaceTest {
    private static final String[] FACE = {
        "int bed(int,int,int)", "int cut(int)", "int tie(int)", "int buy(int)", "int about(int,int)",
        "int best(int)", "int barge(int)", "int sail(int,int)", "int load(int,int)", "int sell(int)",
        "int told(int,int)", "int landing(int,int)", "int would(int,int)", "int advise(int)",
        "int count(int)", "int pass(int)", "int foresee(int,int)", "double mean()", "long digest()"};

    public static void main(String[] args) {
        int kind = SedgeBarges.class.getModifiers();
        if (!Modifier.isPublic(kind) || !Modifier.isFinal(kind)) {
            Check.tell("the class is not public and final");
        }
        if (SedgeBarges.class.getSuperclass() != Object.class || SedgeBarges.class.getInterfaces().length != 0) {
            Check.tell("the class is of another kind");
        }
        Set<String> due = new TreeSet<>(Arrays.asList(FACE));
        Set<String> seen = new TreeSet<>();
        for (Method method : SedgeBarges.class.getDeclaredMethods()) {
            if (Modifier.isPublic(method.getModifiers()) && !Modifier.isStatic(method.getModifiers())) {
                seen.add(signature(method));
            } else if (!Modifier.isPrivate(method.getModifiers())) {
                Check.tell("can be seen: " + method);
            }
        }
        if (!seen.equals(due)) {
            Check.tell("the public methods are " + seen + ", due are " + due);
        }
        for (Field field : SedgeBarges.class.getDeclaredFields()) {
            if (!Modifier.isPrivate(field.getModifiers())) {
                Check.tell("can be seen: " + field);
            }
        }
        Constructor<?>[] constructors = SedgeBarges.class.getDeclaredConstructors();
        if (constructors.length != 1 || !Modifier.isPublic(constructors[0].getModifiers())
                || constructors[0].getParameterCount() != 0) {
            Check.tell("the constructors are " + Arrays.toString(constructors));
        }
        Check.end();
    }

    private static String signature(Method method) {
        StringBuilder text = new StringBuilder();
        text.append(method.getReturnType().getName()).append(' ').append(method.getName()).append('(');
        String comma = "";
        for (Class<?> parameter : method.getParameterTypes()) {
            text.append(comma).append(parameter.getName());
            comma = ",";
        }
        return text.append(')').toString();
    }
}
