import java.io.IOException;
import java.lang.reflect.Constructor;
import java.lang.reflect.Field;
import java.lang.reflect.Method;
import java.lang.reflect.Modifier;
import java.nio.file.Files;
import java.nio.file.Path;
import java.util.ArrayList;
import java.util.HashMap;
import java.util.List;
import java.util.Map;
import java.util.TreeSet;
import java.util.regex.Matcher;
import java.util.regex.Pattern;

/** The face is the document's, line by line, under the headings that it names, with nothing more. */
public final class FaceTest {
    private static final Pattern SIGNATURE = Pattern.compile("(?m)^    (public (?:\\w+ )?\\w+\\([^;{]*)[;{]|^    (// ---- \\w+)$");

    public static void main(String[] args) throws IOException {
        Class<?> face = Thermographica.class;
        List<String> due = promised(Files.readString(Path.of("../shared/DOC.md")));
        Check.same("the document has a face", due.size() > 30, true);
        String program = Files.readString(Path.of("src/main/java/Thermographica.java"));
        Check.same("the face as it is written", String.join("\n", linesOf(program)), String.join("\n", due));
        Check.same("the class is final", Modifier.isFinal(face.getModifiers()), true);
        Check.same("the class is public", Modifier.isPublic(face.getModifiers()), true);
        TreeSet<String> found = new TreeSet<>();
        TreeSet<String> names = new TreeSet<>();
        for (Method method : face.getDeclaredMethods()) {
            if (!Modifier.isPrivate(method.getModifiers())) {
                found.add(told(method, due));
                names.add(method.getName());
            }
        }
        TreeSet<String> lines = new TreeSet<>(due);
        lines.removeIf(line -> line.startsWith("//") || line.startsWith("public Thermographica("));
        Check.same("the methods", String.join("\n", found), String.join("\n", lines));
        Check.same("constructors", face.getDeclaredConstructors().length, 1);
        for (Constructor<?> made : face.getDeclaredConstructors()) {
            Check.same("the constructor takes nothing", made.getParameterCount(), 0);
            Check.same("the constructor is public", Modifier.isPublic(made.getModifiers()), true);
        }
        checkInside(face, names);
        for (Class<?> inside : face.getDeclaredClasses()) {
            Check.same(inside.getName() + " is static", Modifier.isStatic(inside.getModifiers()), true);
            Check.same(inside.getName() + " is hidden", Modifier.isPublic(inside.getModifiers()), false);
            checkNames(inside, names);
        }
        Check.end("FaceTest");
    }

    private static void checkInside(Class<?> face, TreeSet<String> names) {
        for (Field field : face.getDeclaredFields()) {
            Check.same(field.getName() + " is private", Modifier.isPrivate(field.getModifiers()), true);
        }
        checkNames(face, names);
    }

    private static void checkNames(Class<?> type, TreeSet<String> names) {
        for (Method method : type.getDeclaredMethods()) {
            boolean isHidden = !Modifier.isPublic(method.getModifiers());
            Check.same(method + " bears a public name", isHidden && names.contains(method.getName()), false);
        }
        for (Field field : type.getDeclaredFields()) {
            boolean isStatic = Modifier.isStatic(field.getModifiers());
            Check.same(field + " is changeable and static", isStatic && !Modifier.isFinal(field.getModifiers()), false);
        }
    }

    /** Public lines and headings of a text, in their order, with single blanks. */
    private static List<String> linesOf(String text) {
        List<String> lines = new ArrayList<>();
        Matcher found = SIGNATURE.matcher(text);
        while (found.find()) {
            String line = found.group(1) != null ? found.group(1) : found.group(2);
            lines.add(line.replaceAll("\\s+", " ").trim());
        }
        return lines;
    }

    /** The face in the document, with each heading ahead of the first of the calls that it stands ahead of. */
    private static List<String> promised(String document) {
        Map<String, String> headings = new HashMap<>();
        Matcher ahead = Pattern.compile("(?m)^Ahead of the calls `(\\w+)`.* the interface says: (---- \\w+)\\.$").matcher(document);
        while (ahead.find()) {
            headings.put(ahead.group(1), ahead.group(2));
        }
        Check.same("headings", headings.size(), 5);
        int from = document.indexOf("```java");
        List<String> lines = new ArrayList<>();
        for (String line : linesOf(document.substring(from, document.indexOf("```", from + 1)))) {
            String name = line.replaceAll("\\(.*", "").replaceAll(".* ", "");
            if (headings.containsKey(name)) {
                lines.add("// " + headings.get(name));
            }
            lines.add(line);
        }
        return lines;
    }

    /** A method as the document tells it: the names of its parameters are not kept, and are taken from there. */
    private static String told(Method method, List<String> due) {
        StringBuilder text = new StringBuilder("public ");
        text.append(method.getReturnType().getSimpleName()).append(' ').append(method.getName()).append('(');
        String head = text.toString();
        String names = due.stream().filter(line -> line.startsWith(head)).findFirst().orElse("");
        String[] parameters = names.replaceAll(".*\\((.*)\\).*", "$1").split(", ");
        String between = "";
        for (int i = 0; i < method.getParameterCount(); i++) {
            String name = i < parameters.length ? parameters[i].replaceAll(".* ", "") : "";
            text.append(between).append(method.getParameterTypes()[i].getSimpleName()).append(' ').append(name);
            between = ", ";
        }
        text.append(')');
        between = " throws ";
        for (Class<?> type : method.getExceptionTypes()) {
            text.append(between).append(type.getSimpleName());
            between = ", ";
        }
        return text.toString();
    }
}
