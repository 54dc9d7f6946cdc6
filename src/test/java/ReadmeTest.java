import java.io.IOException;
import java.lang.reflect.Method;
import java.nio.file.Files;
import java.nio.file.Path;
import java.util.Set;
import java.util.TreeSet;
import java.util.regex.Matcher;
import java.util.regex.Pattern;

/** README.md tells a house, calls with their answers, and which calls there are: all of it is so. */
public final class ReadmeTest {
    private static final Pattern ASKED = Pattern.compile("(?m)^x\\.(\\w+)\\(([^)]*)\\); +// (-?\\d+)\\b");

    public static void main(String[] args) throws Exception {
        String readme = Files.readString(Path.of("README.md"));
        CallForBrown x = answers(readme);
        Check.due("MINUTES left by README.md", x.count(6), 0);
        calls(readme);
        tests(readme);
        Check.finish();
    }

    private static CallForBrown answers(String readme) throws ReflectiveOperationException {
        CallForBrown x = new CallForBrown();
        Check.due("house()", Check.tell(x, block(readme, "text")), 10);
        Matcher asked = ASKED.matcher(readme);
        int lines = 0;
        while (asked.find()) {
            lines++;
            Check.due(asked.group(), ask(x, asked.group(1), asked.group(2)), Long.parseLong(asked.group(3)));
        }
        Check.due("calls that README.md asks", lines, readme.split("(?m)^x\\.", -1).length - 1);
        return x;
    }

    private static String block(String readme, String kind) {
        int from = readme.indexOf("```" + kind + "\n") + kind.length() + 4;
        return readme.substring(from, readme.indexOf("```", from));
    }

    private static long ask(CallForBrown x, String name, String told) throws ReflectiveOperationException {
        String[] numbers = told.isEmpty() ? new String[0] : told.replace("CallForBrown.NONE", "-1").split(", ");
        for (Method method : CallForBrown.class.getMethods()) {
            if (method.getName().equals(name) && method.getParameterCount() == numbers.length) {
                Object[] values = new Object[numbers.length];
                for (int i = 0; i < numbers.length; i++) {
                    boolean isLong = method.getParameterTypes()[i] == long.class;
                    values[i] = isLong ? (Object) Long.valueOf(numbers[i]) : (Object) Integer.valueOf(numbers[i]);
                }
                return ((Number) method.invoke(x, values)).longValue();
            }
        }
        throw new NoSuchMethodException(name);
    }

    private static void calls(String readme) {
        String listed = readme.substring(readme.indexOf("### The calls"), readme.indexOf("### Answers below 0"));
        Set<String> named = new TreeSet<>();
        Matcher name = Pattern.compile("`(\\w+)`").matcher(listed);
        while (name.find()) {
            Check.due(name.group(1) + " is listed once", named.add(name.group(1)) ? 1 : 0, 1);
        }
        Set<String> face = new TreeSet<>();
        for (Method method : CallForBrown.class.getDeclaredMethods()) {
            if (java.lang.reflect.Modifier.isPublic(method.getModifiers())) {
                face.add(method.getName());
            }
        }
        Check.due("the calls listed are " + named, named.equals(face) ? 1 : 0, 1);
    }

    /** Tests that README.md names are there. */
    private static void tests(String readme) throws IOException {
        Matcher test = Pattern.compile("`(\\w+Test)`").matcher(readme);
        while (test.find()) {
            Path file = Path.of("src/test/java", test.group(1) + ".java");
            Check.due(file + " is there", Files.exists(file) ? 1 : 0, 1);
        }
    }
}
