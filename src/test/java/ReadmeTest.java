import java.lang.reflect.InvocationTargetException;
import java.lang.reflect.Method;
import java.nio.charset.StandardCharsets;
import java.nio.file.Files;
import java.nio.file.Path;
import java.util.regex.Matcher;
import java.util.regex.Pattern;

/** README.md's examples, row by row on one object, answer what stands behind them; run from the project's root. */
public final class ReadmeTest {
    private static final Check CHECK = new Check();
    private static final Pattern CALL = Pattern.compile("x\\.(\\w+)\\(([^)]*)\\); +// (throws \\w+|-?\\w+).*");
    private static final Pattern TELL = Pattern.compile("tell\\(x, \"([^\"]*)\"\\); +// (-?\\w+).*");

    public static void main(String[] args) throws Exception {
        ThirdInLine x = new ThirdInLine();
        for (String row : Files.readAllLines(Path.of("README.md"), StandardCharsets.ISO_8859_1)) {
            Matcher call = CALL.matcher(row);
            Matcher tell = TELL.matcher(row);
            if (call.matches()) {
                same(row, answer(x, call.group(1), call.group(2)), call.group(3));
            } else if (tell.matches()) {
                same(row, String.valueOf(Check.text(x, tell.group(1))), tell.group(2));
            } else {
                CHECK.due("a row without an answer: " + row, row.startsWith("x.") || row.startsWith("tell("), false);
            }
        }
        everyCallIsListed();
        CHECK.end("ReadmeTest");
    }

    private static void same(String row, String got, String want) {
        boolean right = got.equals(want.equals("NONE") ? "-1" : want);
        CHECK.due(row + " (" + got + ")", right, true);
    }

    private static String answer(ThirdInLine x, String name, String given) throws Exception {
        for (Method method : ThirdInLine.class.getMethods()) {
            if (method.getName().equals(name)) {
                try {
                    return String.valueOf(method.invoke(x, numbers(given)));
                } catch (InvocationTargetException e) {
                    return "throws " + e.getCause().getClass().getSimpleName();
                }
            }
        }
        return "no such call";
    }

    private static Object[] numbers(String given) {
        String[] parts = given.isEmpty() ? new String[0] : given.split(", ");
        Object[] numbers = new Object[parts.length];
        for (int i = 0; i < parts.length; i++) {
            numbers[i] = Integer.decode(parts[i]);
        }
        return numbers;
    }

    private static void everyCallIsListed() throws Exception {
        String page = Files.readString(Path.of("README.md"), StandardCharsets.ISO_8859_1);
        String table = page.substring(page.indexOf("| for | calls |"), page.indexOf("## How it is built"));
        for (Method method : ThirdInLine.class.getDeclaredMethods()) {
            if (java.lang.reflect.Modifier.isPublic(method.getModifiers())) {
                CHECK.due(method.getName() + " is in the table of calls", table.contains("`" + method.getName() + "`"), true);
            }
        }
    }
}
