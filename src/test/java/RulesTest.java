import java.io.IOException;
import java.lang.reflect.Field;
import java.lang.reflect.Modifier;
import java.nio.file.Files;
import java.nio.file.Path;
import java.util.ArrayList;
import java.util.Arrays;
import java.util.List;
import java.util.Map;
import java.util.TreeMap;
import java.util.regex.Matcher;
import java.util.regex.Pattern;

/** The rules of LANGUAGE.md that can be seen from the class's text, or from the class by reflection. */
public final class RulesTest {
    private static final int MOST_LINES = 60;
    private static final int MOST_PARAMETERS = 7;
    private static final int MOST_DEEP = 8;
    private static final int MOST_CLASSES = 12;
    private static final int MOST_FIELDS = 20;

    private static final Pattern HEAD = Pattern.compile("^( +)[\\w<>\\[\\] ]*?(\\w+)\\(([^()]*)\\)(?: throws [\\w, ]+)? \\{$");
    private static final Pattern CALLED = Pattern.compile("\\b(\\w+)\\(");
    private static final String THROWN = "throw new (IllegalState|IllegalArgument|IndexOutOfBounds|Arithmetic"
        + "|UnsupportedOperation|NoSuchElement|Runtime)Exception\\((\"[^\"]*\")?\\);";
    /** Some catches would be within the rules; the class needs none. */
    private static final String[] RULED_OUT = {"->", "::", "\\bpackage\\b", "\\bimport\\b", "\\bfinally\\b",
        "\\bcatch\\b", "\\bsynchronized\\b", "\\bassert\\b", "\\bprotected\\b", "\\bnative\\b", "\\bThread\\b",
        "\\bSystem\\b", "Exact\\b", "while \\(true\\)", "for \\(;;\\)", "\" \\+", "\\+ \""};

    private final String text;
    private final Map<String, String> bodies = new TreeMap<>();

    private RulesTest(String text) {
        this.text = text;
    }

    public static void main(String[] args) throws IOException {
        String source = Files.readString(Path.of("src/main/java/KeyGraph.java"));
        RulesTest test = new RulesTest(source.replaceAll("(?s)/\\*.*?\\*/", "").replaceAll("//.*", ""));
        test.words();
        test.exceptions();
        test.methods();
        test.depth();
        test.classes();
        Due.end();
    }

    private void words() {
        for (String word : RULED_OUT) {
            Due.is("rules 2, 4, 6, 9, 10, 13: " + word, count(word), 0);
        }
        Due.is("rule 5: static blocks", count("static \\{"), 0);
    }

    private void exceptions() {
        Due.is("rule 6: throws of another form", count("\\bthrow\\b") - count(THROWN), 0);
    }

    private long count(String pattern) {
        return Pattern.compile(pattern).matcher(text).results().count();
    }

    /** A method ends with the first brace that stands as far to the right as its head. */
    private void methods() {
        List<String> lines = Arrays.asList(text.split("\n"));
        for (int i = 0; i < lines.size(); i++) {
            Matcher head = HEAD.matcher(lines.get(i));
            if (!head.matches() || head.group(0).matches(" +(if|for|while|switch|}) .*")) {
                continue;
            }
            int end = i + lines.subList(i, lines.size()).indexOf(head.group(1) + "}");
            Due.is("rule 11, lines: " + head.group(2), end > i && end - i <= MOST_LINES, true);
            int parameters = head.group(3).isEmpty() ? 0 : head.group(3).split(",").length;
            Due.is("rule 11, parameters: " + head.group(2), parameters <= MOST_PARAMETERS, true);
            String body = String.join("\n", lines.subList(i + 1, Math.max(i + 1, end)));
            String before = bodies.put(head.group(2), body);
            Due.is("a name of its own, so that calls can be told: " + head.group(2), before == null, true);
        }
        Due.is("methods seen", bodies.size() > 18, true);
    }

    private void depth() {
        for (String name : bodies.keySet()) {
            List<String> way = longestWay(name, new ArrayList<>());
            Due.is("rules 8, 11, calls go deep: " + way, way.size() <= MOST_DEEP, true);
        }
    }

    /** Nothing calls itself here, so a name that comes again ends the way and makes it too long. */
    private List<String> longestWay(String name, List<String> above) {
        List<String> here = new ArrayList<>(above);
        here.add(name);
        if (here.size() > MOST_DEEP) {
            return here;
        }
        List<String> longest = here;
        Matcher called = CALLED.matcher(bodies.get(name));
        while (called.find()) {
            if (bodies.containsKey(called.group(1))) {
                List<String> way = longestWay(called.group(1), here);
                longest = way.size() > longest.size() ? way : longest;
            }
        }
        return longest;
    }

    private void classes() {
        Class<?>[] inside = KeyGraph.class.getDeclaredClasses();
        Due.is("rule 11, classes", inside.length < MOST_CLASSES, true);
        Due.is("rule 11, fields of KeyGraph", fields(KeyGraph.class) <= MOST_FIELDS, true);
        for (Class<?> c : inside) {
            Due.is("rule 11, fields of " + c.getName(), fields(c) <= MOST_FIELDS, true);
            Due.is("rule 1, hidden: " + c.getName(), c.getModifiers() & (Modifier.PUBLIC | Modifier.PROTECTED), 0);
            Due.is("rule 1, static: " + c.getName(), Modifier.isStatic(c.getModifiers()), true);
        }
    }

    private static int fields(Class<?> c) {
        int count = 0;
        for (Field f : c.getDeclaredFields()) {
            boolean constant = Modifier.isStatic(f.getModifiers());
            Due.is("rule 5, final: " + f, !constant || Modifier.isFinal(f.getModifiers()), true);
            count += constant ? 0 : 1;
        }
        return count;
    }
}
