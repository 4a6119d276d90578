import java.lang.reflect.Constructor;
import java.lang.reflect.Field;
import java.lang.reflect.Method;
import java.lang.reflect.Modifier;
import java.util.Set;
import java.util.TreeSet;

/** The class shows the document's face and nothing else. */
public final class FaceTest {
    private static final String[] METHODS = {"int set(int,int)", "int feed(int,int,int)", "int turn(int)", "int zero()",
        "int log(int,int)", "int count(int)", "int speed(int)", "long rate()", "int noise()", "int replay(int,int)",
        "int bestFilter(int)", "int would(int)", "int deeds(int)", "int put(long)", "int wipe()", "int fault()", "int carryOut()",
        "int undo()", "int save(int)", "int restore(int)"};
    private static final String[] CONSTANTS = {"NO_SUCH=-1", "BAD_VALUE=-2", "BAD_TEXT=-3", "TOO_MANY=-4", "NOT_POSSIBLE=-5",
        "NONE=-6", "TURN=0", "WRAP=1", "FILTER=2", "GATE=3", "INDEX=4"};

    private static int wrong = 0;

    private static void same(String what, Set<String> got, Set<String> want) {
        if (!got.equals(want)) {
            wrong++;
            System.out.println(what + ": " + got + ", due is " + want);
        }
    }

    public static void main(String[] args) throws IllegalAccessException {
        Set<String> methods = new TreeSet<>();
        Set<String> publicNames = new TreeSet<>();
        Set<String> privateNames = new TreeSet<>();
        for (Method method : StepPairs.class.getDeclaredMethods()) {
            if (Modifier.isPrivate(method.getModifiers())) {
                privateNames.add(method.getName());
                continue;
            }
            publicNames.add(method.getName());
            methods.add((method.getModifiers() == Modifier.PUBLIC ? "" : "not public alone ") + signature(method));
        }
        same("methods", methods, new TreeSet<>(Set.of(METHODS)));
        for (Class<?> inside : StepPairs.class.getDeclaredClasses()) {
            for (Method method : inside.getDeclaredMethods()) {
                privateNames.add(method.getName());
            }
            if (!Modifier.isStatic(inside.getModifiers()) || Modifier.isPublic(inside.getModifiers())) {
                wrong++;
                System.out.println(inside + " is not a private static class");
            }
        }
        privateNames.retainAll(publicNames);
        same("private methods with a public name", privateNames, new TreeSet<>());

        Set<String> constants = new TreeSet<>();
        for (Field field : StepPairs.class.getDeclaredFields()) {
            if (!Modifier.isPrivate(field.getModifiers())) {
                boolean constant = field.getModifiers() == (Modifier.PUBLIC | Modifier.STATIC | Modifier.FINAL);
                constants.add(field.getName() + "=" + (constant ? field.get(null) : "not a constant"));
            }
        }
        same("constants", constants, new TreeSet<>(Set.of(CONSTANTS)));

        Constructor<?>[] constructors = StepPairs.class.getDeclaredConstructors();
        boolean one = constructors.length == 1 && constructors[0].getModifiers() == Modifier.PUBLIC;
        if (!one || constructors[0].getParameterCount() != 0) {
            wrong++;
            System.out.println("the constructor is not the document's");
        }
        if (StepPairs.class.getModifiers() != (Modifier.PUBLIC | Modifier.FINAL)) {
            wrong++;
            System.out.println("the class is not public and final");
        }
        System.out.println(wrong == 0 ? "FaceTest: the face is the document's" : "FaceTest: " + wrong + " wrong");
        if (wrong != 0) {
            System.exit(1);
        }
    }

    private static String signature(Method method) {
        StringBuilder text = new StringBuilder();
        text.append(method.getReturnType().getSimpleName()).append(' ').append(method.getName()).append('(');
        for (int i = 0; i < method.getParameterCount(); i++) {
            text.append(i == 0 ? "" : ",").append(method.getParameterTypes()[i].getSimpleName());
        }
        return text.append(')').toString();
    }
}
