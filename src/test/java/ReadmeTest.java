import java.lang.reflect.InvocationTargetException;
import java.lang.reflect.Method;
import java.lang.reflect.Modifier;
import java.nio.file.Files;
import java.nio.file.Path;
import java.util.regex.Matcher;
import java.util.regex.Pattern;

/** README.md says what is so: each call of its example answers what stands behind it, no call is left out, its tests are there. */
public final class ReadmeTest {
    private static final Pattern CALL = Pattern.compile("cells\\.(\\w+)\\((.*)\\); +// ([^:]+): .*");

    private static final Report report = new Report("ReadmeTest");

    public static void main(String[] args) throws Exception {
        String page = Files.readString(Path.of("README.md"));
        Chaincurves cells = new Chaincurves();
        for (String line : page.split("\n")) {
            Matcher call = CALL.matcher(line);
            if (call.matches()) {
                report.due(line, answer(cells, call.group(1), call.group(2).split(", ")), call.group(3).replace("\"", ""));
            }
        }
        for (Method method : Chaincurves.class.getDeclaredMethods()) {
            if (Modifier.isPublic(method.getModifiers())) {
                boolean isNamed = Pattern.compile("`" + method.getName() + "[`(]").matcher(page).find();
                report.due("README.md names " + method.getName(), isNamed, true);
            }
        }
        Matcher test = Pattern.compile("`(\\w+Test)`").matcher(page);
        while (test.find()) {
            boolean stands = Files.exists(Path.of("src/test/java", test.group(1) + ".java"));
            report.due("there is a " + test.group(1), stands, true);
        }
        report.close();
    }

    /** What a call of the example answers, as a text; the name of what it throws. */
    private static String answer(Chaincurves cells, String name, String[] values) throws Exception {
        Class<?>[] types = new Class<?>[values.length];
        Object[] arguments = new Object[values.length];
        for (int i = 0; i < values.length; i++) {
            types[i] = int.class;
            arguments[i] = Integer.parseInt(values[i]);
        }
        Method method = Chaincurves.class.getMethod(name, types);
        try {
            return String.valueOf(method.invoke(cells, arguments));
        } catch (InvocationTargetException e) {
            return e.getCause().getClass().getSimpleName();
        }
    }
}
