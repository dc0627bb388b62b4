import java.lang.reflect.Constructor;
import java.lang.reflect.Field;
import java.lang.reflect.Method;
import java.lang.reflect.Modifier;
import java.util.Arrays;
import java.util.Set;
import java.util.TreeSet;

/** The class shows the document's face and nothing else. */
public final class FaceTest {
    private static final Set<String> FACE = new TreeSet<>(Arrays.asList(
            "int point(boolean,int)", "int edge(int,int,int,int)", "int fault(int,int,int)",
            "boolean fire(int,boolean)", "boolean erase(int,boolean)", "int way(int,int,int)",
            "int decode() throws ArithmeticException", "int pair(int,int)", "int least()",
            "long fix()", "int signs(long)", "int syndrome(long)",
            "int commit(int) throws ArithmeticException", "long kept()", "int total(int)"));
    private static int wrong = 0;

    private static void check(boolean right, String what) {
        if (!right) {
            wrong++;
            System.out.println("wrong: " + what);
        }
    }

    private static String names(Class<?>[] types) {
        StringBuilder text = new StringBuilder();
        for (Class<?> type : types) {
            text.append(text.length() == 0 ? "" : ",").append(type.getSimpleName());
        }
        return text.toString();
    }

    private static String describe(Method method) {
        String thrown = names(method.getExceptionTypes());
        return method.getReturnType().getSimpleName() + " " + method.getName()
                + "(" + names(method.getParameterTypes()) + ")" + (thrown.isEmpty() ? "" : " throws " + thrown);
    }

    private static void checkMethods() {
        Set<String> seen = new TreeSet<>();
        Set<String> publicNames = new TreeSet<>();
        for (Method method : PairDecoder.class.getDeclaredMethods()) {
            if (Modifier.isPublic(method.getModifiers())) {
                check(!Modifier.isStatic(method.getModifiers()), "static " + method);
                seen.add(describe(method));
                publicNames.add(method.getName());
            }
        }
        check(seen.equals(FACE), "public methods " + seen);
        for (Method method : PairDecoder.class.getDeclaredMethods()) {
            if (!Modifier.isPublic(method.getModifiers()) && !method.isSynthetic()) {
                check(Modifier.isPrivate(method.getModifiers()), "not private: " + method);
                check(!publicNames.contains(method.getName()), "name of a public one: " + method);
            }
        }
    }

    private static void checkFields() {
        for (Field field : PairDecoder.class.getDeclaredFields()) {
            boolean isNone = field.getName().equals("NONE");
            int wanted = Modifier.PUBLIC | Modifier.STATIC | Modifier.FINAL;
            check(isNone ? field.getModifiers() == wanted && field.getType() == int.class
                    : Modifier.isPrivate(field.getModifiers()), "field " + field);
        }
        check(PairDecoder.NONE == -1, "NONE is " + PairDecoder.NONE);
    }

    public static void main(String[] args) {
        check(Modifier.isFinal(PairDecoder.class.getModifiers()), "the class is not final");
        check(Modifier.isPublic(PairDecoder.class.getModifiers()), "the class is not public");
        Constructor<?>[] constructors = PairDecoder.class.getDeclaredConstructors();
        check(constructors.length == 1 && constructors[0].getParameterCount() == 0
                && Modifier.isPublic(constructors[0].getModifiers()), "constructors");
        checkMethods();
        checkFields();
        for (Class<?> inside : PairDecoder.class.getDeclaredClasses()) {
            check(Modifier.isStatic(inside.getModifiers()) && !Modifier.isPublic(inside.getModifiers()),
                    "class inside: " + inside);
        }
        System.out.println(wrong == 0 ? "the face is as due" : wrong + " things are wrong");
        if (wrong != 0) {
            System.exit(1);
        }
    }
}
