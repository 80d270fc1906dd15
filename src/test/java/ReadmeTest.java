import java.lang.reflect.InvocationTargetException;
import java.lang.reflect.Method;
import java.lang.reflect.Modifier;
import java.nio.file.Files;
import java.nio.file.Path;
import java.util.List;
import java.util.regex.Matcher;
import java.util.regex.Pattern;

/** The calls that README.md shows, made on one object in their order, answer what stands behind them there. */
public final class ReadmeTest {
    private static final Pattern CALL =
        Pattern.compile("    door\\.(\\w+)\\(([^)]*)\\);(?:\\s+// (-?\\d+|true|throws \\w+)(?::.*| \\.\\..*)?)?");
    private static final Pattern TELL = Pattern.compile("    tell\\(door, \"([^\"]*)\"\\);\\s+// (\\d+)(?::.*)?");

    private ReadmeTest() {
    }

    public static void main(String[] args) throws Exception {
        Desk.within(120);
        List<String> lines = Files.readAllLines(Path.of("README.md"));
        BaizeDoor door = new BaizeDoor();
        int calls = 0;
        for (String line : lines) {
            if (line.startsWith("    tell(")) tell(door, line);
            else if (line.startsWith("    door.")) call(door, line);
            else continue;
            calls++;
        }
        Desk.holds("some calls are shown", calls >= 20);
        allAreNamed(String.join("\n", lines));
        Desk.end();
    }

    private static void tell(BaizeDoor door, String line) {
        Matcher m = TELL.matcher(line);
        if (m.matches()) Desk.due(line.trim(), Desk.tell(door, m.group(1)), Integer.parseInt(m.group(2)));
        else Desk.due(line, "can't be read", "a text and its answer");
    }

    private static void call(BaizeDoor door, String line) throws IllegalAccessException {
        Matcher m = CALL.matcher(line);
        if (!m.matches()) {
            Desk.due(line, "can't be read", "a call and its answer");
            return;
        }
        String due = m.group(3) == null ? "null" : m.group(3);
        Desk.due(line.trim(), answer(door, m.group(1), m.group(2)), due);
    }

    /** A call's answer as a text: "null" where there is none to give, "throws .." for an exception. */
    private static String answer(BaizeDoor door, String name, String row) throws IllegalAccessException {
        String[] told = row.isEmpty() ? new String[0] : row.split(", ");
        Object[] numbers = new Object[told.length];
        for (int i = 0; i < told.length; i++) numbers[i] = (int) (long) Long.decode(told[i]);
        for (Method method : BaizeDoor.class.getDeclaredMethods()) {
            boolean open = Modifier.isPublic(method.getModifiers());
            if (!open || !method.getName().equals(name) || method.getParameterCount() != told.length) continue;
            try {
                return "" + method.invoke(door, numbers);
            } catch (InvocationTargetException e) {
                return "throws " + e.getCause().getClass().getSimpleName();
            }
        }
        return "no such call";
    }

    private static void allAreNamed(String page) {
        for (Method method : BaizeDoor.class.getDeclaredMethods()) {
            if (!Modifier.isPublic(method.getModifiers())) continue;
            Desk.holds("README.md names " + method.getName(), page.matches("(?s).*\\b" + method.getName() + "\\(.*"));
        }
    }
}
