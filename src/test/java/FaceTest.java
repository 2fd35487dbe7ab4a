import java.lang.reflect.Constructor;
import java.lang.reflect.Field;
import java.lang.reflect.Method;
import java.lang.reflect.Modifier;
import java.lang.reflect.Parameter;
import java.nio.file.Files;
import java.nio.file.Path;
import java.util.Set;
import java.util.StringJoiner;
import java.util.TreeSet;

/** The class shows just the face that the document writes: no member less and none more. */
public final class FaceTest {
    public static void main(String[] args) throws Exception {
        String document = Files.readString(Path.of(args[1]));
        int from = document.indexOf("public final class UnexpectedBell {");
        String face = document.substring(from, document.indexOf("```", from));
        Set<String> wanted = new TreeSet<>();
        for (String line : face.split("\n")) {
            if (line.startsWith("    public")) {
                wanted.add(line.trim());
            }
        }
        Set<String> shown = shown();
        boolean isSame = wanted.size() == 63 && shown.equals(wanted)
            && Modifier.isFinal(UnexpectedBell.class.getModifiers());
        Set<String> missing = new TreeSet<>(wanted);
        missing.removeAll(shown);
        shown.removeAll(wanted);
        System.out.println(isSame ? "the face is the document's" : "missing " + missing + ", too many " + shown);
        if (!isSame) {
            System.exit(1);
        }
    }

    private static Set<String> shown() throws Exception {
        Set<String> shown = new TreeSet<>();
        for (Field field : UnexpectedBell.class.getDeclaredFields()) {
            if (!Modifier.isPrivate(field.getModifiers())) {
                shown.add("public static final int " + field.getName() + " = " + field.getInt(null) + ";");
            }
        }
        for (Constructor<?> constructor : UnexpectedBell.class.getDeclaredConstructors()) {
            shown.add("public UnexpectedBell(" + parameters(constructor.getParameters()) + ");");
        }
        for (Method method : UnexpectedBell.class.getDeclaredMethods()) {
            if (!Modifier.isPrivate(method.getModifiers())) {
                shown.add(Modifier.toString(method.getModifiers()) + " " + method.getReturnType() + " "
                    + method.getName() + "(" + parameters(method.getParameters()) + ");");
            }
        }
        return shown;
    }

    private static String parameters(Parameter[] parameters) {
        StringJoiner joined = new StringJoiner(", ");
        for (Parameter parameter : parameters) {
            joined.add(parameter.getType() + " " + parameter.getName());
        }
        return joined.toString();
    }
}
