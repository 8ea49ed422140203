import java.io.IOException;
import java.lang.reflect.Method;
import java.nio.file.Files;
import java.nio.file.Path;
import java.util.HashMap;
import java.util.Map;
import java.util.regex.Matcher;
import java.util.regex.Pattern;

/** Each call in the README's pieces of Java answers the number that stands behind it. */
public final class ReadmeTest {
    private static final Pattern PIECE = Pattern.compile("(?s)```java\n(.*?)```");
    private static final Pattern CALL = Pattern.compile(
            "(?:int (\\w+) = )?rows\\.(\\w+)\\(([^()]*)\\); +// (-?[0-9.]+)(?:: .*)?");
    private static final String START = "ShadeRows rows = new ShadeRows();";

    public static void main(String[] args) throws IOException, ReflectiveOperationException {
        Matcher piece = PIECE.matcher(Files.readString(Path.of("README.md")));
        int pieces = 0;
        while (piece.find()) {
            run(piece.group(1).split("\n"));
            pieces++;
        }
        Check.isTrue("there are pieces of Java", pieces > 0);
        Check.end("ReadmeTest");
    }

    private static void run(String[] lines) throws ReflectiveOperationException {
        ShadeRows rows = new ShadeRows();
        Map<String, String> names = new HashMap<>();
        Check.isTrue("begins with a new object", lines[0].equals(START));
        for (int i = 1; i < lines.length; i++) {
            Matcher call = CALL.matcher(lines[i]);
            boolean understood = call.matches();
            Check.isTrue("a call with its answer: " + lines[i], understood);
            if (understood) {
                Number answer = answer(rows, call.group(2), call.group(3), names);
                Check.same(lines[i], answer.doubleValue(), Double.parseDouble(call.group(4)));
                names.put(call.group(1), answer.toString());
            }
        }
    }

    private static Number answer(ShadeRows rows, String name, String words,
            Map<String, String> names) throws ReflectiveOperationException {
        for (Method m : ShadeRows.class.getMethods()) {
            if (m.getName().equals(name)) {
                return (Number) m.invoke(rows, given(m.getParameterTypes(), words, names));
            }
        }
        throw new NoSuchMethodException(name);
    }

    private static Object[] given(Class<?>[] kinds, String words, Map<String, String> names) {
        String[] word = words.isEmpty() ? new String[0] : words.split(", ");
        Object[] given = new Object[word.length];
        for (int i = 0; i < word.length; i++) {
            String told = names.getOrDefault(word[i], word[i]);
            if (kinds[i] == double.class) {
                given[i] = Double.valueOf(told);
            } else if (kinds[i] == boolean.class) {
                given[i] = Boolean.valueOf(told);
            } else {
                given[i] = Integer.decode(told);
            }
        }
        return given;
    }
}
