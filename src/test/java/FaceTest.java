import java.lang.reflect.Constructor;
import java.lang.reflect.Executable;
import java.lang.reflect.Field;
import java.lang.reflect.Method;
import java.lang.reflect.Modifier;
import java.util.Arrays;
import java.util.Set;
import java.util.TreeSet;

/** The class shows the document's face and nothing else, and keeps to what LANGUAGE.md says of members. */
public final class FaceTest {
    private static final String[] FACE = {
        "ShareDesk()",
        "void begin(int) throws IllegalArgumentException",
        "int weight(int,int) throws IllegalArgumentException",
        "int share(int,int,int) throws IllegalArgumentException,IllegalStateException",
        "long over(int,int,int) throws IllegalArgumentException,IllegalStateException",
        "int next(int,int) throws IllegalArgumentException,IllegalStateException",
        "int least(int,int,int) throws IllegalArgumentException,IllegalStateException",
        "int count(int) throws IllegalArgumentException",
    };

    private static boolean right = true;

    private static String names(Class<?>[] types) {
        return String.join(",", Arrays.stream(types).map(Class::getSimpleName).toList());
    }

    private static String headed(String start, Executable member) {
        String thrown = names(member.getExceptionTypes());
        String head = start + "(" + names(member.getParameterTypes()) + ")";
        String rest = thrown.isEmpty() ? head : head + " throws " + thrown;
        return member.getModifiers() == Modifier.PUBLIC ? rest : "not just public: " + rest;
    }

    private static Set<String> shownMembers() {
        Set<String> shown = new TreeSet<>();
        for (Constructor<?> made : ShareDesk.class.getDeclaredConstructors()) {
            shown.add(headed("ShareDesk", made));
        }
        for (Method method : ShareDesk.class.getDeclaredMethods()) {
            if (!Modifier.isPrivate(method.getModifiers())) {
                shown.add(headed(method.getReturnType().getSimpleName() + " " + method.getName(), method));
            }
        }
        for (Field field : ShareDesk.class.getDeclaredFields()) {
            if (!Modifier.isPrivate(field.getModifiers())) {
                shown.add("field " + field.getName());
            }
        }
        return shown;
    }

    private static boolean isPublicName(String name) {
        return Arrays.stream(ShareDesk.class.getMethods()).anyMatch(method -> method.getName().equals(name));
    }

    /** Rule 1: no private method bears the name of a public one. Rule 5: static fields are final. */
    private static Set<String> againstTheRules() {
        Set<String> found = new TreeSet<>();
        for (Method method : ShareDesk.class.getDeclaredMethods()) {
            if (Modifier.isPrivate(method.getModifiers()) && isPublicName(method.getName())) {
                found.add("private method " + method.getName());
            }
        }
        for (Field field : ShareDesk.class.getDeclaredFields()) {
            if (Modifier.isStatic(field.getModifiers()) && !Modifier.isFinal(field.getModifiers())) {
                found.add("static field " + field.getName());
            }
        }
        return found;
    }

    private static void due(String what, Object got, Object want) {
        if (!got.equals(want)) {
            right = false;
            System.out.println(what + " is " + got + ", due is " + want);
        }
    }

    public static void main(String[] args) {
        due("the class", Modifier.toString(ShareDesk.class.getModifiers()), "public final");
        due("its package", ShareDesk.class.getPackageName(), "");
        due("the face", shownMembers(), new TreeSet<>(Arrays.asList(FACE)));
        due("what is against the rules", againstTheRules(), Set.of());
        if (!right) {
            System.exit(1);
        }
        System.out.println("the face is as due");
    }
}
