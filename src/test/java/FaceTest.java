import java.lang.reflect.Constructor;
import java.lang.reflect.Executable;
import java.lang.reflect.Field;
import java.lang.reflect.Method;
import java.lang.reflect.Modifier;
import java.util.Arrays;
import java.util.Set;
import java.util.TreeSet;

/** The class shows the document's face and nothing else. */
public final class FaceTest {
    private static final String[] FACE = {
        "ShareDesk()",
        "void begin(int) throws IllegalArgumentException",
        "int weight(int,int) throws IllegalArgumentException",
        "int share(int,int,int) throws IllegalArgumentException,IllegalStateException",
        "long over(int,int,int) throws IllegalArgumentException,IllegalStateException",
        "int next(int,int) throws IllegalArgumentException,IllegalStateException",
        "int least(int,int,int) throws IllegalArgumentException,IllegalStateException",
        "int count(int) throws IllegalArgumentException",
    };

    private static String names(Class<?>[] types) {
        return String.join(",", Arrays.stream(types).map(Class::getSimpleName).toList());
    }

    private static String headed(String start, Executable member) {
        String thrown = names(member.getExceptionTypes());
        String head = start + "(" + names(member.getParameterTypes()) + ")";
        String rest = thrown.isEmpty() ? head : head + " throws " + thrown;
        return member.getModifiers() == Modifier.PUBLIC ? rest : "not just public: " + rest;
    }

    public static void main(String[] args) {
        Set<String> shown = new TreeSet<>();
        for (Constructor<?> made : ShareDesk.class.getDeclaredConstructors()) {
            shown.add(headed("ShareDesk", made));
        }
        for (Method method : ShareDesk.class.getDeclaredMethods()) {
            if (!Modifier.isPrivate(method.getModifiers())) {
                shown.add(headed(method.getReturnType().getSimpleName() + " " + method.getName(), method));
            }
        }
        for (Field field : ShareDesk.class.getDeclaredFields()) {
            if (!Modifier.isPrivate(field.getModifiers())) {
                shown.add("field " + field.getName());
            }
        }
        Set<String> due = new TreeSet<>(Arrays.asList(FACE));
        boolean right = shown.equals(due) && ShareDesk.class.getModifiers() == (Modifier.PUBLIC | Modifier.FINAL);
        System.out.println(right ? "the face is as due" : "the face is " + shown + ", due is " + due);
        if (!right) {
            System.exit(1);
        }
    }
}
