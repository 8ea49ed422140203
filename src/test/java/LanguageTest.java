import java.io.IOException;
import java.lang.reflect.Field;
import java.lang.reflect.Method;
import java.lang.reflect.Modifier;
import java.nio.file.Files;
import java.nio.file.Path;
import java.util.Arrays;
import java.util.List;
import java.util.Set;
import java.util.TreeSet;
import java.util.regex.Matcher;
import java.util.regex.Pattern;

/** The face of the class, and those rules of LANGUAGE.md that a text search can see. */
public final class LanguageTest {
    private static final Path SOURCE = Path.of("src/main/java/ShadeRows.java");

    private static final Set<String> FACE = new TreeSet<>(List.of(
            "text(int,double) int", "function(int,double,double,double,double) int",
            "sample(int,int,int) int", "value(int,double) double", "error() int",
            "shading(int,double,double,double,double,double,double) int",
            "vertex(int,double,double,int) int", "patch(int,int,double,double) int",
            "extend(int,boolean,boolean) int", "pieces(int) int", "point(int,int,int,int) int"));

    private static final String[] FORBIDDEN = {
        "\\bMath\\.", "\\bDouble\\.", "\\bSystem\\.", "->", "::", "\\bcatch\\b", "\\btry\\b",
        "\\bfinally\\b", "\\bsynchronized\\b", "\\bassert\\b", "\\bstatic\\s*\\{", "@\\w+",
        "\\bprotected\\b", "\\bpackage\\b", "\\bvar\\b", "\\bfloat\\b", "static final double",
        "\\bstatic (?!final|class|abstract)\\w+ \\w+(;| =)", "\\bhashCode\\b", "\\bequals\\b",
        "\\btoString\\b", "[^\\x00-\\x7f]", "while \\(true\\)",
    };

    public static void main(String[] args) throws IOException {
        face();
        inside(ShadeRows.class);
        String code = Files.readString(SOURCE);
        String bare = code.replaceAll("(?s)/\\*.*?\\*/", "").replaceAll("//[^\n]*", "")
                .replaceAll("\"[^\"\n]*\"", "\"\"");
        for (String word : FORBIDDEN) {
            Check.isTrue("without " + word, !Pattern.compile(word).matcher(bare).find());
        }
        thrown(bare);
        methodsAreShort(bare);
        Check.end("LanguageTest");
    }

    private static void face() {
        Set<String> seen = new TreeSet<>();
        Set<String> hidden = new TreeSet<>();
        for (Method m : ShadeRows.class.getDeclaredMethods()) {
            if (Modifier.isPublic(m.getModifiers())) {
                seen.add(told(m));
            } else {
                Check.isTrue(m.getName() + " is private", Modifier.isPrivate(m.getModifiers()));
                hidden.add(m.getName());
            }
        }
        Check.isTrue("the face is " + seen, seen.equals(FACE));
        for (Method m : ShadeRows.class.getMethods()) {
            Check.isTrue("no private " + m.getName(), !hidden.contains(m.getName()));
        }
        for (Field f : ShadeRows.class.getDeclaredFields()) {
            Check.isTrue(f.getName() + " is private", Modifier.isPrivate(f.getModifiers()));
        }
        Check.isTrue("final", Modifier.isFinal(ShadeRows.class.getModifiers()));
        Check.same("constructors", ShadeRows.class.getDeclaredConstructors().length, 1);
    }

    private static String told(Method m) {
        StringBuilder types = new StringBuilder();
        for (Class<?> type : m.getParameterTypes()) {
            types.append(types.length() > 0 ? "," : "").append(type.getName());
        }
        return m.getName() + "(" + types + ") " + m.getReturnType().getName();
    }

    private static void inside(Class<?> outer) {
        Check.isTrue("at most twelve classes", outer.getDeclaredClasses().length <= 12);
        Set<String> face = new TreeSet<>();
        for (String call : FACE) {
            face.add(call.substring(0, call.indexOf('(')));
        }
        for (Class<?> c : outer.getDeclaredClasses()) {
            Check.isTrue(c.getName() + " is static", Modifier.isStatic(c.getModifiers()));
            Check.isTrue(c.getName() + " is private", Modifier.isPrivate(c.getModifiers()));
            Check.isTrue(c.getName() + " has few fields", c.getDeclaredFields().length <= 20);
            for (Method m : c.getDeclaredMethods()) {
                Check.isTrue("own name " + m.getName(), !face.contains(m.getName()));
                Check.isTrue("few parameters " + m.getName(), m.getParameterCount() <= 7);
            }
        }
    }

    private static void thrown(String bare) {
        List<String> known = Arrays.asList("NoSuchElementException",
                "ArrayIndexOutOfBoundsException", "IllegalArgumentException");
        Matcher m = Pattern.compile("throw new (\\w+)").matcher(bare);
        int count = 0;
        while (m.find()) {
            Check.isTrue("throws " + m.group(1), known.contains(m.group(1)));
            count++;
        }
        Check.same("all throws are new ones", Pattern.compile("\\bthrow\\b").matcher(bare)
                .results().count(), count);
    }

    private static void methodsAreShort(String bare) {
        String[] lines = bare.split("\n", -1);
        int begin = -1;
        String indent = "";
        for (int i = 0; i < lines.length; i++) {
            Matcher head = Pattern.compile("^( {4}| {8})(?! )[^=;]*\\)?.*\\{$").matcher(lines[i]);
            if (head.find() && !lines[i].contains(" class ")) {
                begin = i;
                indent = head.group(1);
            }
            if (begin >= 0 && lines[i].equals(indent + "}")) {
                Check.isTrue("short: " + lines[begin].trim(), i - begin < 60);
                begin = -1;
            }
        }
    }
}
