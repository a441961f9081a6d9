import java.io.File;
import java.io.IOException;
import java.lang.reflect.InvocationTargetException;
import java.lang.reflect.Method;
import java.lang.reflect.Modifier;
import java.nio.file.Files;
import java.nio.file.Path;
import java.util.regex.Matcher;
import java.util.regex.Pattern;

/** README.md as it stands: its calls, in their order, answer what is written behind them; it leaves out no call and no test. */
public final class ReadmeTest {
    private static final Pattern CALL = Pattern.compile("(?m)^x\\.(\\w+)\\(([^)]*)\\); *// (-?\\w+)");
    private static final int FEWEST_CALLS = 15;

    private ReadmeTest() { }

    public static void main(String[] args) throws IOException, ReflectiveOperationException {
        String page = Files.readString(Path.of("README.md"));
        calls(page);
        text(page);
        names(page);
        Check.end();
    }

    private static void calls(String page) throws IllegalAccessException, InvocationTargetException {
        SpinStrip x = new SpinStrip();
        Matcher call = CALL.matcher(page);
        int made = 0;
        while (call.find()) {
            Object answer = null;
            for (Method m : SpinStrip.class.getDeclaredMethods()) {
                if (m.getName().equals(call.group(1)) && Modifier.isPublic(m.getModifiers())) answer = m.invoke(x, with(m, call.group(2)));
            }
            Check.same(call.group(), String.valueOf(answer), call.group(3));
            made++;
        }
        Check.due("calls on the page: " + made, made >= FEWEST_CALLS, true);
    }

    private static Object[] with(Method m, String told) {
        Object[] with = new Object[m.getParameterCount()];
        String[] parts = told.split(", *");
        for (int k = 0; k < with.length; k++) {
            boolean truth = m.getParameterTypes()[k] == boolean.class;
            with[k] = truth ? (Object) Boolean.valueOf(parts[k]) : (Object) Integer.decode(parts[k]);
        }
        return with;
    }

    /** The text on the page, without what is said beside it, is read without a fault and tells what is said. */
    private static void text(String page) {
        int from = page.indexOf("```text") + 7;
        String block = page.substring(from, page.indexOf("```", from));
        SpinStrip x = Check.strip(block.replaceAll(";[^;\n]*\n", ";\n").trim());
        Check.due("sites", x.count(0) * x.count(1), 6);
        Check.due("rings", x.count(12), 1);
        Check.due("all across", x.site(0, 4), 1);
        Check.due("all along", x.site(0, 5), -2);
        Check.due("one tie", x.site(4, 4), 3);
        Check.due("all fields", x.site(1, 2), 1);
        Check.due("one field", x.site(0, 2), -1);
        Check.due("pinned up", x.site(5, 3), 1);
        Check.due("seed", x.count(9), 77);
    }

    private static void names(String page) {
        for (Method m : SpinStrip.class.getDeclaredMethods()) {
            if (Modifier.isPublic(m.getModifiers())) Check.due("the page names " + m.getName(), page.contains("`" + m.getName() + "`"), true);
        }
        File[] files = new File("src/test/java").listFiles();
        Check.due("there are tests", files != null && files.length > 0, true);
        for (File file : files == null ? new File[0] : files) {
            String name = file.getName().replace(".java", "");
            if (name.endsWith("Test")) Check.due("the page names " + name, page.contains("| `" + name + "` |"), true);
        }
    }
}
