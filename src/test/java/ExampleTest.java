import java.nio.file.Files;
import java.nio.file.Path;
import java.util.HashSet;
import java.util.List;
import java.util.Set;

/** The example of README.md: it stands here line by line, and answers what it is said to answer. */
public final class ExampleTest {
    private static final Check check = new Check();

    public static void main(String[] args) throws Exception {
        example();
        standsInReadme();
        check.end();
    }

    private static void example() {
        ColourLinker x = new ColourLinker();

        x.add(0x00100201, 4);
        x.add(0x00000100, 4);
        x.add(0x010C0200, 4);
        x.add(0x01000000, 4);
        int gray = x.parse();

        x.clear();
        x.add(0x00340203, 4);
        x.add(0x00000400, 4);
        x.add(0x02180600, 4);
        x.add(0x03180600, 4);
        x.add(0x04180600, 4);
        x.add(0x05201400, 4);
        x.add(0x02020000, 4);
        x.add(0x00000000, 4);
        x.add(0x0300037D, 4);
        x.add(0x03150125, 4);
        x.add(0x01C805BC, 4);
        x.add(0x007C001C, 4);
        x.add(0x00C705B6, 4);
        int rgb = x.parse();

        int l = x.link(rgb, gray, 0, false);
        long c = x.convert(l, 65535, 32768, 0);
        long v0 = c >> 32, v1 = c >> 16 & 65535, v2 = c & 65535;
        int none = x.link(rgb, 7, 0, false);

        check.due("gray", 0, gray);
        check.due("rgb", 1, rgb);
        check.due("l", 0, l);
        check.due("v0", 26336, v0);
        check.due("v1", 0, v1);
        check.due("v2", 0, v2);
        check.due("none", ColourLinker.MISSING, none);
    }

    private static void standsInReadme() throws Exception {
        Set<String> here = new HashSet<>();
        for (String line : Files.readAllLines(Path.of("src/test/java/ExampleTest.java"))) {
            here.add(line.trim());
        }
        List<String> readme = Files.readAllLines(Path.of("README.md"));
        int begin = readme.indexOf("```java");
        check.due("README.md has an example", true, begin >= 0);
        int lines = 0;
        for (int i = begin + 1; begin >= 0 && !readme.get(i).equals("```"); i++) {
            String code = readme.get(i).replaceAll("//.*", "").trim();
            check.due("line " + (i + 1) + " of README.md stands in the test", true, here.contains(code));
            lines += code.isEmpty() ? 0 : 1;
        }
        check.due("the example has lines", true, lines > 20);
    }
}
