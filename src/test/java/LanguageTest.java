import java.nio.file.Files;
import java.nio.file.Path;
import java.util.ArrayList;
import java.util.Arrays;
import java.util.List;
import java.util.Map;
import java.util.Set;
import java.util.TreeMap;
import java.util.TreeSet;
import java.util.regex.Matcher;
import java.util.regex.Pattern;

/** The rules of LANGUAGE.md that can be seen in the text of the program. */
public final class LanguageTest {
    private static final Check check = new Check();
    private static final Pattern CALL = Pattern.compile("(new |super|\\b)(\\w*)\\(");
    private static final Set<String> NO_CALLS = Set.of("if", "for", "while", "switch", "super", "this");

    /** The lines of the program, without comments; it has no texts that could look like code. */
    private final List<String> lines = new ArrayList<>();
    private final String text;
    /** The body of each method and constructor by name; those of one name count as one. */
    private final Map<String, String> bodies = new TreeMap<>();

    private LanguageTest(String source) {
        text = source.replaceAll("(?s)/\\*.*?\\*/", "").replaceAll("//[^\n]*", "");
        lines.addAll(Arrays.asList(text.split("\n")));
    }

    public static void main(String[] args) throws Exception {
        LanguageTest test = new LanguageTest(Files.readString(Path.of("src/main/java/ColourLinker.java")));
        test.imports();
        test.words();
        test.library();
        test.staticFields();
        test.classes();
        test.methods();
        test.depth();
        check.end();
    }

    private void imports() {
        check.says("one file, without a package line; the library: only what stands here");
        for (String line : lines) {
            check.due(line, false, line.startsWith("package"));
            check.due(line, true, !line.startsWith("import") || line.equals("import java.util.Arrays;"));
        }
    }

    private void words() {
        check.says("6. No throw, try, catch, synchronized, assert .. 2. no lambda, no method reference");
        String[] never = {"throw", "throws", "try", "catch", "finally", "synchronized", "assert", "volatile", "transient",
            "native", "var", "equals", "hashCode", "toString", "getClass", "Object", "Thread", "Random", "protected"};
        for (String word : never) {
            check.due("the word " + word, false, Pattern.compile("\\b" + word + "\\b").matcher(text).find());
        }
        for (String sign : new String[] {"->", "::", "@", "\"", "Exact("}) {
            check.due("the sign " + sign, false, text.contains(sign));
        }
        check.due("a static initialiser block", false, Pattern.compile("static\\s*\\{").matcher(text).find());
    }

    private void library() {
        check.says("4. The library: only what stands here.");
        Set<String> allowed = Set.of("Math.max", "Math.min", "Math.floorDiv", "Arrays.copyOf", "Arrays.fill", "System.arraycopy",
            "Matrix.forth", "Matrix.back", "LabXyz.turnToXyz");
        Matcher use = Pattern.compile("\\b([A-Z]\\w*\\.\\w+)\\(").matcher(text);
        while (use.find()) {
            check.due(use.group(1), true, allowed.contains(use.group(1)));
        }
        Matcher floating = Pattern.compile("\\b(double|float|StrictMath|[0-9]+\\.[0-9]+)\\b").matcher(text);
        check.due("a number that is not whole", false, floating.find());
    }

    private void staticFields() {
        check.says("5. Static fields are final: constants, and arrays written out in their initialiser.");
        Pattern constant = Pattern.compile("(public|private) static final (int|long|int\\[\\]) [A-Z0-9_]+ = .*;");
        for (String line : lines) {
            if (line.contains(" static ") && line.contains(" = ") && !line.contains(") {")) {
                check.due(line, true, constant.matcher(line.trim()).matches());
            }
        }
        check.due("an array that is changed", false, Pattern.compile("\\bD\\[\\w+\\] *[-+*/|&]?=[^=]").matcher(text).find());
    }

    private void classes() {
        check.says("2. Classes inside: static nested classes .. 11. the file has at most some twelve classes");
        int classes = 0;
        for (String line : lines) {
            if (Pattern.compile("\\b(class|record|enum|interface) [A-Z]").matcher(line).find()) {
                classes++;
                check.due(line, true, classes == 1 || line.contains(" static "));
            }
        }
        check.due("at most twelve classes", true, classes <= 12);
    }

    /** A method begins with a line that ends in ") {" at the depth of members, and ends with its brace. */
    private void methods() {
        check.says("11. Methods stay short (some sixty lines).");
        Pattern head = Pattern.compile("( {4}| {8})((?:\\w+ |\\w+\\[\\] )*)(\\w+)\\(.*\\) \\{");
        for (int i = 0; i < lines.size(); i++) {
            Matcher m = head.matcher(lines.get(i));
            if (m.matches() && !NO_CALLS.contains(m.group(3))) {
                int end = i + 1;
                while (!lines.get(end).equals(m.group(1) + "}")) {
                    end++;
                }
                boolean constructor = Character.isUpperCase(m.group(3).charAt(0));
                String name = (constructor ? "new " : "") + m.group(3);
                bodies.merge(name, String.join("\n", lines.subList(i + 1, end)), String::concat);
                check.due(name + " is short", true, end - i <= 60);
            }
        }
        check.due("methods are found", true, bodies.size() > 60);
    }

    private void depth() {
        check.says("11. calls that are no recursion go at most eight deep");
        for (String name : bodies.keySet()) {
            int deep = depthOf(name, new TreeSet<>());
            check.due(name + " goes at most eight deep (" + deep + ")", true, deep <= 8);
        }
    }

    /** As a method of the library counts one, and those of one name count as one, it is never too little. */
    private int depthOf(String name, Set<String> open) {
        check.due(name + " calls itself", false, open.contains(name));
        if (open.contains(name) || !bodies.containsKey(name)) {
            return 1;
        }
        open.add(name);
        int deepest = 0;
        Matcher call = CALL.matcher(bodies.get(name));
        while (call.find()) {
            String next = call.group(1).equals("new ") ? "new " + call.group(2) : call.group(2);
            if (!next.isEmpty() && !NO_CALLS.contains(next)) {
                deepest = Math.max(deepest, depthOf(next, open));
            }
        }
        open.remove(name);
        return 1 + deepest;
    }
}
