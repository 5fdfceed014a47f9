import java.lang.reflect.Constructor;
import java.lang.reflect.Field;
import java.lang.reflect.Method;
import java.lang.reflect.Modifier;
import java.nio.file.Files;
import java.nio.file.Path;
import java.util.ArrayList;
import java.util.Arrays;
import java.util.List;
import java.util.TreeSet;
import java.util.stream.Collectors;
import java.util.stream.Stream;

/** The public face is that which the document writes out, and there is nothing besides it. */
public final class FaceTest {
    public static void main(String[] args) throws Exception {
        Report report = new Report("FaceTest");
        report.due("the face", new TreeSet<>(face()), new TreeSet<>(faceOfDocument(Path.of(args[1], "DOC.md"))));
        report.due("the class's modifiers", Modifier.toString(Chaincurves.class.getModifiers()), "public final");
        for (Field field : Chaincurves.class.getDeclaredFields()) {
            report.due(field + " is private", field.isSynthetic() || Modifier.isPrivate(field.getModifiers()), true);
        }
        TreeSet<String> open = new TreeSet<>();
        for (Method method : Chaincurves.class.getDeclaredMethods()) {
            if (Modifier.isPublic(method.getModifiers())) {
                open.add(method.getName());
            }
        }
        Stream<Method> methods = Stream.of(Chaincurves.class.getDeclaredMethods());
        for (Class<?> inside : Chaincurves.class.getDeclaredClasses()) {
            // Static, too, says rule 1 of LANGUAGE.md, but its rule 2 lets others stand: only this is asked.
            boolean isOpen = Modifier.isPublic(inside.getModifiers()) || Modifier.isProtected(inside.getModifiers());
            report.due(inside + " is public or protected", isOpen, false);
            methods = Stream.concat(methods, Stream.of(inside.getDeclaredMethods()));
        }
        for (Method method : methods.filter(m -> !m.isSynthetic()).toList()) {
            boolean isPrivate = Modifier.isPrivate(method.getModifiers());
            report.due(method + " is private, with a public one's name", isPrivate && open.contains(method.getName()), false);
            boolean isInside = method.getDeclaringClass() != Chaincurves.class;
            report.due(method + " is in its place", isInside || isPrivate
                    || Modifier.isPublic(method.getModifiers()), true);
        }
        report.close();
    }

    private static List<String> face() {
        List<String> lines = new ArrayList<>();
        for (Constructor<?> made : Chaincurves.class.getDeclaredConstructors()) {
            lines.add(Modifier.toString(made.getModifiers()) + " Chaincurves" + tail(made.getParameterTypes(),
                    made.getExceptionTypes()));
        }
        for (Method method : Chaincurves.class.getMethods()) {
            if (method.getDeclaringClass() == Chaincurves.class) {
                lines.add(Modifier.toString(method.getModifiers()) + " " + method.getReturnType().getSimpleName() + " "
                        + method.getName() + tail(method.getParameterTypes(), method.getExceptionTypes()));
            }
        }
        return lines;
    }

    private static String tail(Class<?>[] parameters, Class<?>[] exceptions) {
        return "(" + names(parameters) + ")" + (exceptions.length == 0 ? "" : " throws " + names(exceptions));
    }

    private static String names(Class<?>[] classes) {
        return Arrays.stream(classes).map(Class::getSimpleName).collect(Collectors.joining(", "));
    }

    /** The lines of the document's face, without the names of the parameters. */
    private static List<String> faceOfDocument(Path document) throws Exception {
        List<String> lines = new ArrayList<>();
        for (String line : Files.readAllLines(document)) {
            if (line.startsWith("    public ")) {
                lines.add(line.strip().replace(";", "").replaceAll("\\b(int|boolean) \\w+(?=[,)])", "$1"));
            }
        }
        return lines;
    }
}
