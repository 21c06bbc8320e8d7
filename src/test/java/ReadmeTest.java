import java.lang.reflect.InvocationTargetException;
import java.lang.reflect.Method;
import java.nio.file.Files;
import java.nio.file.Path;
import java.util.List;
import java.util.regex.Matcher;
import java.util.regex.Pattern;

/** The calls in README.md answer what stands behind them there. */
public final class ReadmeTest {
    private static final Pattern LINE = Pattern.compile("hall\\.([A-Za-z]+)\\((.*)\\); // (.*)");

    public static void main(String[] args) throws Exception {
        List<String> lines = Files.readAllLines(Path.of("README.md"));
        TransferHall hall = new TransferHall();
        int calls = 0;
        for (String line : lines) {
            Matcher parts = LINE.matcher(line);
            if (parts.matches()) {
                calls++;
                Check.due(line, parts.group(3), () -> answer(hall, parts.group(1), parts.group(2)));
            }
        }
        int found = calls;
        Check.due("README.md shows calls", true, () -> found > 9);
        everyCallIsNamed(String.join("\n", lines));
        Check.end("ReadmeTest");
    }

    private static void everyCallIsNamed(String text) {
        for (Method one : TransferHall.class.getDeclaredMethods()) {
            if (java.lang.reflect.Modifier.isPublic(one.getModifiers())) {
                Check.due("README.md names " + one.getName(), true, () -> text.contains("`" + one.getName() + "`"));
            }
        }
    }

    private static String answer(TransferHall hall, String name, String words) throws Exception {
        for (Method one : TransferHall.class.getMethods()) {
            if (one.getName().equals(name)) {
                try {
                    return String.valueOf(one.invoke(hall, values(words)));
                } catch (InvocationTargetException e) {
                    throw (Exception) e.getCause();
                }
            }
        }
        return "no call " + name;
    }

    private static Object[] values(String words) {
        String[] each = words.isEmpty() ? new String[0] : words.split(", ");
        Object[] values = new Object[each.length];
        for (int i = 0; i < each.length; i++) {
            boolean isNumber = each[i].matches("-?[0-9]+");
            values[i] = isNumber ? (Object) Integer.parseInt(each[i]) : (Object) Boolean.parseBoolean(each[i]);
        }
        return values;
    }
}
