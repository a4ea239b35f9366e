import java.lang.reflect.Constructor;
import java.lang.reflect.Field;
import java.lang.reflect.Method;
import java.lang.reflect.Modifier;
import java.util.Arrays;
import java.util.Set;
import java.util.TreeSet;

/** The public face: what the document lists, with its throws clauses, and no other member that is not private. */
public final class FaceTest {
    private static final String IOOBE = " throws IndexOutOfBoundsException";
    private static final String[] FACE = {
        "int hire(int) throws IllegalArgumentException IllegalStateException",
        "int setRate(int int)" + IOOBE + " IllegalArgumentException",
        "int fill(int int)" + IOOBE + " IllegalArgumentException",
        "int bind(int int)" + IOOBE + " IllegalArgumentException",
        "int work(int int boolean)" + IOOBE + " IllegalArgumentException IllegalStateException",
        "int lend(int int)" + IOOBE + " IllegalArgumentException IllegalStateException",
        "int pay() throws",
        "int told(int int)" + IOOBE,
        "int wage(int int)" + IOOBE,
        "int chest(int)" + IOOBE,
        "int coins(int int)" + IOOBE,
        "int count(int)" + IOOBE,
        "int rate(int)" + IOOBE,
        "int would(int int)" + IOOBE + " IllegalArgumentException",
        "int until(int)" + IOOBE,
        "int lacks() throws",
        "int advise() throws",
        "double mean() throws",
        "long digest() throws",
    };

    private static int wrong = 0;

    public static void main(String[] args) {
        int classModifiers = ReaperWages.class.getModifiers();
        check("the class is public and final", Modifier.isPublic(classModifiers) && Modifier.isFinal(classModifiers));
        check("the class has no package", ReaperWages.class.getPackageName().isEmpty());
        Constructor<?>[] makers = ReaperWages.class.getDeclaredConstructors();
        check("one public constructor without parameters",
                makers.length == 1 && Modifier.isPublic(makers[0].getModifiers()) && makers[0].getParameterCount() == 0);
        for (Field field : ReaperWages.class.getDeclaredFields()) {
            check("the field " + field.getName() + " is private", Modifier.isPrivate(field.getModifiers()));
        }
        checkMethods();
        System.out.println(wrong == 0 ? "the face is as due" : wrong + " things of the face are wrong");
        if (wrong != 0) {
            System.exit(1);
        }
    }

    private static void checkMethods() {
        Set<String> found = new TreeSet<>();
        Set<String> publicNames = new TreeSet<>();
        Set<String> privateNames = new TreeSet<>();
        for (Method method : ReaperWages.class.getDeclaredMethods()) {
            if (Modifier.isPrivate(method.getModifiers())) {
                privateNames.add(method.getName());
            } else {
                publicNames.add(method.getName());
                found.add(textOf(method));
            }
        }
        Set<String> due = new TreeSet<>(Arrays.asList(FACE));
        check("the methods of the face are " + due + ", found " + found, due.equals(found));
        privateNames.retainAll(publicNames);
        check("no private method bears the name of a public one: " + privateNames, privateNames.isEmpty());
    }

    private static String textOf(Method method) {
        int modifiers = method.getModifiers();
        String text = method.getReturnType() + " " + method.getName() + "(" + names(method.getParameterTypes()) + ") throws";
        if (method.getExceptionTypes().length > 0) {
            text += " " + names(method.getExceptionTypes());
        }
        return modifiers == Modifier.PUBLIC ? text : Modifier.toString(modifiers) + " " + text;
    }

    private static String names(Class<?>[] types) {
        String[] names = new String[types.length];
        for (int i = 0; i < types.length; i++) {
            names[i] = types[i].getSimpleName();
        }
        return String.join(" ", names);
    }

    private static void check(String what, boolean holds) {
        if (!holds) {
            wrong++;
            System.out.println("not so: " + what);
        }
    }
}
