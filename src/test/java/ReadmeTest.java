import java.io.IOException;
import java.lang.reflect.Method;
import java.nio.file.Files;
import java.nio.file.Path;
import java.util.regex.Matcher;
import java.util.regex.Pattern;

/** The calls that README.md shows, made one by one, with the answers that it tells behind them. */
public final class ReadmeTest {
    private static final Pattern TYPED = Pattern.compile("type\\(house, \"(.*)\"\\);");
    private static final Pattern CALLED = Pattern.compile("house\\.(\\w+)\\(([^)]*)\\); +// (-?\\d+).*");
    private static final Pattern READ = Pattern.compile("read\\(house\\); +// (.*)");

    public static void main(String[] args) throws IOException, ReflectiveOperationException {
        Check c = new Check("README.md");
        String text = Files.readString(Path.of("README.md"));
        int begin = text.indexOf("```java\n//");
        int end = text.indexOf("```\n", begin + 8);
        c.due("there is an example", begin >= 0 && end > begin ? 1 : 0, 1);
        int lines = 0;
        for (String line : text.substring(Math.max(begin, 0) + 8, Math.max(end, 8)).split("\n")) {
            lines += line.isEmpty() || line.startsWith("//") ? 0 : follow(c, line);
        }
        c.due("lines of the example", lines > 40 ? 1 : 0, 1);
        Check.finish();
    }

    private static int follow(Check c, String line) throws ReflectiveOperationException {
        Matcher typed = TYPED.matcher(line);
        Matcher called = CALLED.matcher(line);
        Matcher read = READ.matcher(line);
        if (typed.matches()) {
            type(c.x, typed.group(1).replace("\\\\", "\\"));
        } else if (called.matches()) {
            c.due(line, call(c.x, called.group(1), called.group(2)), Long.parseLong(called.group(3)));
        } else if (read.matches()) {
            c.dueText(line, c.out(), read.group(1));
        } else {
            c.due("a line that says nothing: " + line, 0, 1);
        }
        return 1;
    }

    private static void type(TongueHouse house, String text) {
        for (int i = 0; i < text.length(); i += 20) {
            int[] five = new int[5];
            for (int k = 0; k < 20; k++) {
                five[k / 4] = five[k / 4] << 8 | (i + k < text.length() ? text.charAt(i + k) : ' ');
            }
            int size = house.feed(five[0], five[1], five[2], five[3], five[4]);
            house.end(Math.min(size, size - 20 + text.length() - i));
        }
    }

    private static long call(TongueHouse house, String name, String listed) throws ReflectiveOperationException {
        String[] texts = listed.isEmpty() ? new String[0] : listed.split(", ");
        Object[] numbers = new Object[texts.length];
        for (int i = 0; i < texts.length; i++) {
            numbers[i] = Integer.parseInt(texts[i]);
        }
        for (Method m : TongueHouse.class.getMethods()) {
            if (m.getName().equals(name) && m.getParameterCount() == numbers.length) {
                return ((Number) m.invoke(house, numbers)).longValue();
            }
        }
        throw new NoSuchMethodException(name);
    }
}
