import java.io.IOException;
import java.lang.reflect.Method;
import java.lang.reflect.Modifier;
import java.nio.file.Files;
import java.nio.file.Path;
import java.util.HashMap;
import java.util.Map;
import java.util.regex.Matcher;
import java.util.regex.Pattern;

/** What README.md says of the use: its lines answer what stands behind them, and each call stands in its table. */
public final class ReadmeTest {
    private static final Pattern ASKS = Pattern.compile("int (\\w+) = f\\.(\\w+)\\((.*)\\); *// (-?\\d+): .+");
    private static final Pattern DROPS = Pattern.compile("f\\.(drop)\\((.*)\\); *// .+");

    private final FieldFilter filter = new FieldFilter();
    private final Map<String, Integer> names = new HashMap<>();

    public static void main(String[] args) throws IOException {
        String text = Files.readString(Path.of("README.md"));
        Matcher block = Pattern.compile("(?s)```java\n(.*?)```").matcher(text);
        Check.that("README.md has no lines of Java", block.find());
        String[] lines = block.group(1).split("\n");
        Check.that("the first line is " + lines[0], lines[0].equals("FieldFilter f = new FieldFilter();"));
        ReadmeTest test = new ReadmeTest();
        for (int line = 1; line < lines.length; line++) {
            test.run(lines[line]);
        }
        for (Method method : FieldFilter.class.getDeclaredMethods()) {
            if (Modifier.isPublic(method.getModifiers())) {
                String name = method.getName();
                Check.that("the lines do without " + name, block.group(1).contains("f." + name + "("));
                inTable(text, method);
            }
        }
        Check.close("ReadmeTest");
    }

    private void run(String line) {
        Matcher asks = ASKS.matcher(line);
        Matcher drops = DROPS.matcher(line);
        if (asks.matches()) {
            String got = Check.outcome(() -> Calls.ask(filter, asks.group(2), numbers(asks.group(3))));
            Check.that(line + " answers " + got, got.equals(asks.group(4)));
            Check.that("the name of " + line + " is there already", !names.containsKey(asks.group(1)));
            names.put(asks.group(1), Integer.parseInt(asks.group(4)));
        } else if (drops.matches()) {
            String got = Check.outcome(() -> Calls.ask(filter, drops.group(1), numbers(drops.group(2))));
            Check.that(line + " answers " + got, got.equals("0"));
        } else {
            Check.that("not read: " + line, false);
        }
    }

    private int[] numbers(String list) {
        String[] words = list.isEmpty() ? new String[0] : list.split(", ");
        int[] numbers = new int[words.length];
        for (int word = 0; word < words.length; word++) {
            numbers[word] = number(words[word]);
        }
        return numbers;
    }

    private int number(String word) {
        if (names.containsKey(word)) {
            return names.get(word);
        }
        return switch (word) {
            case "FieldFilter.F01" -> FieldFilter.F01;
            case "FieldFilter.Q00" -> FieldFilter.Q00;
            default -> Integer.parseInt(word);
        };
    }

    /** A row of the table begins with the call and as many names as it takes arguments. */
    private static void inTable(String text, Method method) {
        Matcher row = Pattern.compile("(?m)^\\| `" + method.getName() + "\\((.*?)\\)` \\|").matcher(text);
        boolean found = row.find();
        Check.that("no row of the table tells of " + method.getName(), found);
        if (found) {
            int count = row.group(1).isEmpty() ? 0 : row.group(1).split(", ").length;
            Check.that(row.group(), count == method.getParameterCount());
        }
    }
}
