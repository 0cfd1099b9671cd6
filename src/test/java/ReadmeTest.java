import java.io.IOException;
import java.lang.reflect.Method;
import java.lang.reflect.Modifier;
import java.nio.file.Files;
import java.nio.file.Path;
import java.util.TreeSet;
import java.util.regex.Matcher;
import java.util.regex.Pattern;

/** The examples of README.md, all one run on one object, answer what stands behind them; every call has one. */
public final class ReadmeTest {
    private static final Pattern EXAMPLE = Pattern.compile("x\\.(\\w+)\\(([^)]*)\\);\\s+// (-?\\d+)(:.*)?");

    private ReadmeTest() {
    }

    public static void main(String[] args) throws IOException {
        Calls calls = new Calls(new BentPictures());
        TreeSet<String> without = face();
        for (String line : Files.readAllLines(Path.of("README.md"))) {
            Matcher example = EXAMPLE.matcher(line);
            if (example.matches()) {
                String name = example.group(1);
                long got = calls.call(name, numbers(example.group(2)));
                Due.is("README.md: " + name + "(" + example.group(2) + ")", got, Long.parseLong(example.group(3)));
                without.remove(name);
            } else {
                // A call that tells no answer would be one that nothing tests.
                Due.is("README.md, an example without an answer: " + line, line.startsWith("x.") ? 1 : 0, 0);
            }
        }
        Due.is("README.md, calls without an example " + without, without.size(), 0);
        Due.end();
    }

    private static TreeSet<String> face() {
        TreeSet<String> names = new TreeSet<>();
        for (Method method : BentPictures.class.getDeclaredMethods()) {
            if (Modifier.isPublic(method.getModifiers())) {
                names.add(method.getName());
            }
        }
        return names;
    }

    /** true and false are told as 1 and 0. */
    private static int[] numbers(String text) {
        if (text.isBlank()) {
            return new int[0];
        }
        String[] parts = text.split(",");
        int[] numbers = new int[parts.length];
        for (int k = 0; k < parts.length; k++) {
            String part = parts[k].trim();
            numbers[k] = part.equals("true") ? 1 : part.equals("false") ? 0 : Integer.parseInt(part);
        }
        return numbers;
    }
}
