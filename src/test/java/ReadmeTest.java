import java.lang.reflect.Method;
import java.lang.reflect.Modifier;
import java.nio.charset.StandardCharsets;
import java.nio.file.Files;
import java.nio.file.Path;
import java.util.regex.Matcher;
import java.util.regex.Pattern;

/** README.md tells the truth: its example answers what stands behind each call, and every call is named. */
public final class ReadmeTest {
    private static final Pattern SITE = Pattern.compile("String text = \"([^\"]+)\";");
    private static final Pattern CALL = Pattern.compile("^x\\.(\\w+)\\(([-\\d, ]*)\\);\\s+// (-?\\d+),", Pattern.MULTILINE);

    public static void main(String[] args) throws Exception {
        String page = Files.readString(Path.of("README.md"), StandardCharsets.US_ASCII);
        example(page);
        allNamed(page);
        Check.end("ReadmeTest");
    }

    private static void example(String page) throws Exception {
        int start = page.indexOf("```java\n");
        int end = page.indexOf("```", start + 3);
        Check.due("README.md has an example", start >= 0 && end > start ? 1 : 0, 1);
        if (start < 0 || end <= start) {
            return;
        }
        String code = page.substring(start, end);
        MuckForFour x = new MuckForFour();
        Matcher site = SITE.matcher(code);
        Check.due("the example tells a site", site.find() ? 1 : 0, 1);
        for (char c : site.group(1).toCharArray()) {
            x.letter(c);
        }
        int calls = 0;
        for (Matcher call = CALL.matcher(code); call.find(); calls++) {
            String due = call.group(1) + "(" + call.group(2) + ")";
            Check.due("README.md: " + due, answer(x, call.group(1), call.group(2)), Integer.parseInt(call.group(3)));
        }
        Check.due("each line of the example with a call of its own is run", calls, code.lines().filter(l -> l.startsWith("x.")).count());
    }

    private static int answer(MuckForFour x, String name, String numbers) throws Exception {
        String[] told = numbers.isBlank() ? new String[0] : numbers.split(", ");
        Class<?>[] types = new Class<?>[told.length];
        Object[] values = new Object[told.length];
        for (int i = 0; i < told.length; i++) {
            types[i] = int.class;
            values[i] = Integer.valueOf(told[i]);
        }
        return (Integer) MuckForFour.class.getMethod(name, types).invoke(x, values);
    }

    private static void allNamed(String page) {
        for (Method one : MuckForFour.class.getDeclaredMethods()) {
            if (Modifier.isPublic(one.getModifiers())) {
                boolean named = page.contains("`" + one.getName() + "`") || page.contains("`" + one.getName() + "()`");
                Check.due("README.md names " + one.getName(), named ? 1 : 0, 1);
            }
        }
    }
}
