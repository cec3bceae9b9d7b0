import java.lang.reflect.Constructor;
import java.lang.reflect.Field;
import java.lang.reflect.Method;
import java.lang.reflect.Modifier;
import java.util.Arrays;
import java.util.Set;
import java.util.TreeSet;

/** The public face is the document's, and nothing else of the class can be seen from outside. */
public final class FaceTest {
    private static final String[] FACE = {
        "int bed(int,int,int)", "int cut(int)", "int tie(int)", "int buy(int)", "int about(int,int)",
        "int best(int)", "int barge(int)", "int sail(int,int)", "int load(int,int)", "int sell(int)",
        "int told(int,int)", "int landing(int,int)", "int would(int,int)", "int advise(int)",
        "int count(int)", "int pass(int)", "int foresee(int,int)", "double mean()", "long digest()"};

    public static void main(String[] args) {
        Check.holds("The public face", FaceTest::face);
        Check.holds("int bed(..) throws IndexOutOfBoundsException, IllegalArgumentException, ..", FaceTest::exceptions);
        Check.end();
    }

    private static void face() {
        int kind = SedgeBarges.class.getModifiers();
        if (!Modifier.isPublic(kind) || !Modifier.isFinal(kind)) {
            Check.tell("the class is not public and final");
        }
        if (SedgeBarges.class.getSuperclass() != Object.class || SedgeBarges.class.getInterfaces().length != 0) {
            Check.tell("the class is of another kind");
        }
        Set<String> due = new TreeSet<>(Arrays.asList(FACE));
        Set<String> seen = new TreeSet<>();
        for (Method method : SedgeBarges.class.getDeclaredMethods()) {
            if (Modifier.isPublic(method.getModifiers()) && !Modifier.isStatic(method.getModifiers())) {
                seen.add(signature(method));
            } else if (!Modifier.isPrivate(method.getModifiers())) {
                Check.tell("can be seen: " + method);
            }
        }
        if (!seen.equals(due)) {
            Check.tell("the public methods are " + seen + ", due are " + due);
        }
        for (Field field : SedgeBarges.class.getDeclaredFields()) {
            if (!Modifier.isPrivate(field.getModifiers())) {
                Check.tell("can be seen: " + field);
            }
        }
        Constructor<?>[] constructors = SedgeBarges.class.getDeclaredConstructors();
        if (constructors.length != 1 || !Modifier.isPublic(constructors[0].getModifiers())
                || constructors[0].getParameterCount() != 0) {
            Check.tell("the constructors are " + Arrays.toString(constructors));
        }
    }

    /** In the order of the document. */
    private static void exceptions() {
        String outside = "IndexOutOfBoundsException ";
        String argument = "IllegalArgumentException ";
        String state = "IllegalStateException ";
        thrownBy("bed", outside + argument + state);
        thrownBy("cut", outside + state);
        thrownBy("tie", outside);
        thrownBy("buy", argument + state);
        thrownBy("about", outside);
        thrownBy("best", outside);
        thrownBy("barge", outside + state);
        thrownBy("sail", outside);
        thrownBy("load", outside + state);
        thrownBy("sell", outside + state);
        thrownBy("told", outside);
        thrownBy("landing", outside);
        thrownBy("would", outside);
        thrownBy("advise", outside);
        thrownBy("count", outside);
        thrownBy("pass", argument);
        thrownBy("foresee", argument + outside);
        thrownBy("mean", "");
        thrownBy("digest", "");
    }

    private static void thrownBy(String name, String due) {
        for (Method method : SedgeBarges.class.getDeclaredMethods()) {
            if (method.getName().equals(name) && Modifier.isPublic(method.getModifiers())) {
                StringBuilder thrown = new StringBuilder();
                for (Class<?> exception : method.getExceptionTypes()) {
                    thrown.append(exception.getSimpleName()).append(' ');
                }
                if (!thrown.toString().equals(due)) {
                    Check.tell(name + " throws " + thrown + ", due is " + due);
                }
            }
        }
    }

    private static String signature(Method method) {
        StringBuilder text = new StringBuilder();
        text.append(method.getReturnType().getName()).append(' ').append(method.getName()).append('(');
        String comma = "";
        for (Class<?> parameter : method.getParameterTypes()) {
            text.append(comma).append(parameter.getName());
            comma = ",";
        }
        return text.append(')').toString();
    }
}
