import java.lang.reflect.Constructor;
import java.lang.reflect.Field;
import java.lang.reflect.Method;
import java.lang.reflect.Modifier;
import java.util.Arrays;
import java.util.TreeSet;

/** The face is the document's, with nothing more. */
public final class FaceTest {
    private static final String[] FACE = {
        "int tellOption(boolean,int) IndexOutOfBoundsException IllegalStateException",
        "int clearOptions()",
        "int make() UnsupportedOperationException IllegalStateException",
        "int whole(int) IllegalArgumentException IllegalStateException",
        "int heap(int) IllegalArgumentException IllegalStateException",
        "int sum(int,int) IndexOutOfBoundsException UnsupportedOperationException IllegalStateException",
        "int turned(int) IndexOutOfBoundsException IllegalStateException",
        "int positions(int) IndexOutOfBoundsException",
        "int depth(int) IndexOutOfBoundsException",
        "char compare(int,int) IndexOutOfBoundsException",
        "char compareByPlay(int,int) IndexOutOfBoundsException",
        "char outcome(int) IndexOutOfBoundsException",
        "char kindOf(int) IndexOutOfBoundsException",
        "double number(int) IndexOutOfBoundsException NoSuchElementException",
        "int heapOf(int) IndexOutOfBoundsException NoSuchElementException",
        "int birthday(int) IndexOutOfBoundsException",
        "int options(int,boolean) IndexOutOfBoundsException",
        "int write(int) IndexOutOfBoundsException UnsupportedOperationException",
        "char charAt(int) IndexOutOfBoundsException",
        "double stop(int,boolean) IndexOutOfBoundsException",
        "double wall(int,boolean,int) IndexOutOfBoundsException IllegalArgumentException",
        "double temperature(int) IndexOutOfBoundsException NoSuchElementException",
        "double mean(int) IndexOutOfBoundsException",
        "int begin(int,boolean) IndexOutOfBoundsException",
        "int move(int) IllegalStateException IndexOutOfBoundsException",
        "int takeBack() NoSuchElementException",
        "boolean canWin() IllegalStateException",
        "int winningMove() IllegalStateException NoSuchElementException",
        "int mistake() IllegalStateException NoSuchElementException",
        "long moves()",
        "float numberShare() ArithmeticException",
        "boolean isSound()",
    };

    public static void main(String[] args) {
        Class<?> face = Thermographica.class;
        Check.same("the class is final", Modifier.isFinal(face.getModifiers()), true);
        Check.same("the class is public", Modifier.isPublic(face.getModifiers()), true);
        TreeSet<String> found = new TreeSet<>();
        TreeSet<String> names = new TreeSet<>();
        for (Method method : face.getDeclaredMethods()) {
            if (!Modifier.isPrivate(method.getModifiers())) {
                found.add(told(method));
                names.add(method.getName());
            }
        }
        Check.same("the methods", String.join("\n", found), String.join("\n", new TreeSet<>(Arrays.asList(FACE))));
        for (Constructor<?> made : face.getDeclaredConstructors()) {
            Check.same("the constructor takes nothing", made.getParameterCount(), 0);
            Check.same("the constructor is public", Modifier.isPublic(made.getModifiers()), true);
        }
        checkInside(face, names);
        for (Class<?> inside : face.getDeclaredClasses()) {
            Check.same(inside.getName() + " is static", Modifier.isStatic(inside.getModifiers()), true);
            Check.same(inside.getName() + " is hidden", Modifier.isPublic(inside.getModifiers()), false);
            checkNames(inside, names);
        }
        Check.end("FaceTest");
    }

    private static void checkInside(Class<?> face, TreeSet<String> names) {
        for (Field field : face.getDeclaredFields()) {
            Check.same(field.getName() + " is private", Modifier.isPrivate(field.getModifiers()), true);
        }
        checkNames(face, names);
    }

    private static void checkNames(Class<?> type, TreeSet<String> names) {
        for (Method method : type.getDeclaredMethods()) {
            boolean isHidden = !Modifier.isPublic(method.getModifiers());
            Check.same(method + " bears a public name", isHidden && names.contains(method.getName()), false);
        }
        for (Field field : type.getDeclaredFields()) {
            boolean isStatic = Modifier.isStatic(field.getModifiers());
            Check.same(field + " is changeable and static", isStatic && !Modifier.isFinal(field.getModifiers()), false);
        }
    }

    private static String told(Method method) {
        StringBuilder text = new StringBuilder();
        text.append(method.getReturnType().getSimpleName()).append(' ').append(method.getName()).append('(');
        String between = "";
        for (Class<?> type : method.getParameterTypes()) {
            text.append(between).append(type.getSimpleName());
            between = ",";
        }
        text.append(')');
        for (Class<?> type : method.getExceptionTypes()) {
            text.append(' ').append(type.getSimpleName());
        }
        return text.toString();
    }
}
