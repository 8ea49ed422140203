import java.io.IOException;
import java.lang.reflect.Method;
import java.lang.reflect.Modifier;
import java.nio.file.DirectoryStream;
import java.nio.file.Files;
import java.nio.file.Path;
import java.util.Set;
import java.util.TreeSet;
import java.util.regex.Matcher;
import java.util.regex.Pattern;

/** The face stands as the document writes it, and each sentence behind it is quoted by a test. */
public final class WholeDocumentTest {
    private static final Path TESTS = Path.of("src/test/java");
    private static final Pattern QUOTED =
            Pattern.compile("Sentence\\.holds\\(\\s*((?:\"(?:[^\"\\\\]|\\\\.)*\"[\\s+]*)+)");
    private static final Pattern LITERAL = Pattern.compile("\"((?:[^\"\\\\]|\\\\.)*)\"");

    public static void main(String[] args) throws IOException {
        String document = Sentence.document();
        Check.isTrue("the document is there", !document.isEmpty());
        face(document);
        sentences(document);
        Check.end("WholeDocumentTest");
    }

    private static void face(String document) {
        Set<String> due = new TreeSet<>();
        String block = part(document, "```java", "```");
        Matcher line = Pattern.compile("public [^;{]+;").matcher(block);
        while (line.find()) {
            due.add(line.group().replaceAll("(int|double|boolean) \\w+(?=[,)])", "$1"));
        }
        Check.same("the document's lines", due.size(), 12);
        Set<String> seen = new TreeSet<>();
        seen.add("public " + ShadeRows.class.getConstructors()[0].getName() + "();");
        for (Method m : ShadeRows.class.getDeclaredMethods()) {
            if (Modifier.isPublic(m.getModifiers())) {
                seen.add(told(m));
            }
        }
        Check.isTrue("the face is " + seen + ", the document's " + due, seen.equals(due));
        Check.isTrue("the class", block.contains("public final class ShadeRows {")
                && Modifier.toString(ShadeRows.class.getModifiers()).equals("public final"));
    }

    private static String told(Method m) {
        String kinds = names(m.getParameterTypes());
        String thrown = names(m.getExceptionTypes());
        return Modifier.toString(m.getModifiers()) + " " + m.getReturnType().getSimpleName() + " "
                + m.getName() + "(" + kinds + ")" + (thrown.isEmpty() ? "" : " throws " + thrown) + ";";
    }

    private static String names(Class<?>[] classes) {
        StringBuilder all = new StringBuilder();
        for (Class<?> c : classes) {
            all.append(all.length() > 0 ? ", " : "").append(c.getSimpleName());
        }
        return all.toString();
    }

    private static String part(String text, String from, String to) {
        int begin = text.indexOf(from);
        int end = begin < 0 ? -1 : text.indexOf(to, begin + from.length());
        Check.isTrue("the document has " + from + " .. " + to, end >= 0);
        return end < 0 ? "" : text.substring(begin + from.length(), end);
    }

    /** Headings, the calls' own lines and signs between two quotes need no test. */
    private static void sentences(String document) throws IOException {
        String terms = part(document, "## Terms", "## Not promised");
        StringBuilder left = new StringBuilder(terms);
        try (DirectoryStream<Path> files = Files.newDirectoryStream(TESTS, "*Test.java")) {
            for (Path file : files) {
                Matcher quote = QUOTED.matcher(Files.readString(file));
                while (quote.find()) {
                    blank(left, terms, joined(quote.group(1)));
                }
            }
        }
        String unquoted = left.toString().replaceAll("## Promise \\d+: [a-zA-Z ]+`[^`]*`", "")
                .replace("```text", "").replaceAll("\\W+", " ").trim();
        Check.isTrue("no sentence without a test, but: " + unquoted, unquoted.isEmpty());
    }

    private static String joined(String literals) {
        StringBuilder words = new StringBuilder();
        Matcher literal = LITERAL.matcher(literals);
        while (literal.find()) {
            words.append(literal.group(1));
        }
        return words.toString();
    }

    private static void blank(StringBuilder left, String terms, String words) {
        for (int i = terms.indexOf(words); i >= 0; i = terms.indexOf(words, i + 1)) {
            left.replace(i, i + words.length(), " ".repeat(words.length()));
        }
    }
}
