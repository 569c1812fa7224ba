import java.io.IOException;
import java.lang.reflect.InvocationTargetException;
import java.lang.reflect.Method;
import java.lang.reflect.Modifier;
import java.nio.file.Files;
import java.nio.file.Path;
import java.util.List;
import java.util.Set;
import java.util.TreeSet;
import java.util.regex.Matcher;
import java.util.regex.Pattern;

/** Makes the calls that README.md shows, one behind the other: each must answer what stands behind it there. */
public final class ReadmeTest {
    private static final Pattern CALL = Pattern.compile("x\\.(\\w+)\\(([^()]*)\\);\\s+// (-?\\w+): .+");

    private static final Due DUE = new Due();

    private ReadmeTest() {
    }

    private static String cityOf(List<String> lines) {
        StringBuilder text = new StringBuilder();
        int i = lines.indexOf("```text") + 1;
        while (i < lines.size() && !lines.get(i).equals("```")) {
            text.append(lines.get(i));
            i++;
        }
        return text.toString();
    }

    private static Method named(String name) {
        for (Method m : CheekClause.class.getDeclaredMethods()) {
            if (Modifier.isPublic(m.getModifiers()) && m.getName().equals(name)) {
                return m;
            }
        }
        throw new IllegalStateException("README.md shows a call that there isn't: " + name);
    }

    private static Object[] numbersOf(Method m, String told) {
        String[] words = told.isEmpty() ? new String[0] : told.split(", ");
        Object[] numbers = new Object[words.length];
        for (int i = 0; i < words.length; i++) {
            boolean isTruth = m.getParameterTypes()[i] == boolean.class;
            numbers[i] = isTruth ? (Object) Boolean.valueOf(words[i]) : (Object) Integer.valueOf(words[i]);
        }
        return numbers;
    }

    private static Set<String> callsNotShown(String page) {
        Set<String> names = new TreeSet<>();
        for (Method m : CheekClause.class.getDeclaredMethods()) {
            if (Modifier.isPublic(m.getModifiers()) && !page.contains("x." + m.getName() + "(")) {
                names.add(m.getName());
            }
        }
        return names;
    }

    public static void main(String[] args) throws IOException, IllegalAccessException, InvocationTargetException {
        List<String> lines = Files.readAllLines(Path.of("README.md"));
        DUE.about("README.md");
        CheekClause x = DUE.told(cityOf(lines));
        for (String line : lines) {
            Matcher shown = CALL.matcher(line);
            if (shown.matches()) {
                Method m = named(shown.group(1));
                String answer = String.valueOf(m.invoke(x, numbersOf(m, shown.group(2))));
                DUE.is(line + " it answered " + answer, answer.equals(shown.group(3)), true);
            }
        }
        DUE.is("calls that it does not show: " + callsNotShown(String.join("\n", lines)),
                callsNotShown(String.join("\n", lines)).size(), 0);
        DUE.end("ReadmeTest");
    }
}
