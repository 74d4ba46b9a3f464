import java.io.IOException;
import java.lang.reflect.Method;
import java.lang.reflect.Modifier;
import java.nio.file.Files;
import java.nio.file.Path;
import java.util.Set;
import java.util.TreeSet;
import java.util.regex.Matcher;
import java.util.regex.Pattern;

/** README.md tells of the class as it is: its example is run as it stands there, and no call is left out. */
public final class ReadmeTest {
    private static final Pattern EXAMPLE_ROW = Pattern.compile("(?m)^loft\\.(\\w+)\\(([^)]*)\\); +// (-?\\d+): ");
    private static final Pattern TABLE_ROW = Pattern.compile("(?m)^\\| (`[^|]*`) \\|");
    private static final Pattern CALL = Pattern.compile("`(\\w+)\\(([^)]*)\\)`");

    private static int wrong = 0;

    private static void hold(String what, boolean holds) {
        if (!holds) {
            wrong++;
            System.out.println("does not hold: " + what);
        }
    }

    private static String[] parts(String list) {
        return list.isEmpty() ? new String[0] : list.split(", ");
    }

    private static Method methodOf(String name) {
        for (Method method : BellLoft.class.getDeclaredMethods()) {
            if (method.getName().equals(name)) {
                return method;
            }
        }
        throw new IllegalStateException("README.md has a call that the class has not: " + name);
    }

    private static Object[] valuesOf(Method method, String[] texts) {
        Class<?>[] types = method.getParameterTypes();
        Object[] values = new Object[texts.length];
        for (int i = 0; i < texts.length; i++) {
            values[i] = types[i] == boolean.class ? (Object) Boolean.valueOf(texts[i]) : Integer.valueOf(texts[i]);
        }
        return values;
    }

    private static void example(String readme) throws ReflectiveOperationException {
        BellLoft loft = new BellLoft();
        Matcher row = EXAMPLE_ROW.matcher(readme);
        int rows = 0;
        while (row.find()) {
            rows++;
            Method method = methodOf(row.group(1));
            Object got = method.invoke(loft, valuesOf(method, parts(row.group(2))));
            hold(row.group() + "(answered " + got + ")", got.equals(Integer.valueOf(row.group(3))));
        }
        // A row that is written otherwise would be passed over in silence.
        hold("each call of the example tells its answer", rows > 0 && rows == readme.split("(?m)^loft\\.", -1).length - 1);
    }

    private static void table(String readme) {
        Set<String> told = new TreeSet<>();
        Matcher row = TABLE_ROW.matcher(readme);
        while (row.find()) {
            Matcher call = CALL.matcher(row.group(1));
            while (call.find()) {
                told.add(call.group(1) + " with " + parts(call.group(2)).length);
            }
        }
        Set<String> face = new TreeSet<>();
        for (Method method : BellLoft.class.getDeclaredMethods()) {
            if (Modifier.isPublic(method.getModifiers())) {
                face.add(method.getName() + " with " + method.getParameterCount());
            }
        }
        hold("the table's calls " + told + " are those of the class " + face, told.equals(face));
    }

    public static void main(String[] args) throws IOException, ReflectiveOperationException {
        String readme = Files.readString(Path.of("README.md"));
        example(readme);
        table(readme);
        System.out.println(wrong == 0 ? "README.md is as the class is" : wrong + " things are not as due");
        if (wrong != 0) {
            System.exit(1);
        }
    }
}
