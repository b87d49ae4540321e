import java.io.IOException;
import java.lang.reflect.Method;
import java.lang.reflect.Modifier;
import java.nio.file.Files;
import java.nio.file.Path;
import java.util.ArrayList;
import java.util.List;

/** README.md's example is the one that runs here, with these answers, and README.md tells every call. */
public final class ReadmeTest {
    private static void example() {
        WaveBlocks block = new WaveBlocks();
        for (int y = 0; y < 8; y++) {
            block.row(y, 0x1020304050607080L + y);
        }
        block.keep();
        block.steps(16, 2, 50);
        int used = block.forward();
        int last = block.look(1);
        int first = block.at(0, 0);
        int exact = block.exact(0, 0);
        long greatest = block.back(8);
        int error = block.error(8);
        long whole = block.samples(0);
        long half = block.back(4);
        long mixed = block.samples(0);
        Checks.due("the example's used", used, 5);
        Checks.due("the example's last", last, 15);
        Checks.due("the example's first", first, -56);
        Checks.due("the example's step", block.at(0, 1), 8);
        Checks.due("the example's exact", exact, -444);
        Checks.due("the example's greatest", greatest, 1267);
        Checks.due("the example's error", error, 148);
        Checks.due("the example's whole", whole, 0x10202F3D4F5F7183L);
        Checks.due("the example's half", half, 1267);
        Checks.due("the example's mixed", mixed, 0x1738557C4F5F7183L);
    }

    /** The lines of code between the fence of Java and the next one, without their comments. */
    private static List<String> codeOf(List<String> readme) {
        List<String> code = new ArrayList<>();
        int start = readme.indexOf("```java");
        for (int i = start + 1; start >= 0 && i < readme.size() && !readme.get(i).equals("```"); i++) {
            code.add(readme.get(i).replaceFirst("//.*", "").trim());
        }
        return code;
    }

    private static void sameCode(List<String> readme, List<String> test) {
        List<String> code = codeOf(readme);
        List<String> trimmed = new ArrayList<>();
        for (String line : test) {
            trimmed.add(line.trim());
        }
        int start = code.isEmpty() ? -1 : trimmed.indexOf(code.get(0));
        int end = start + code.size();
        boolean same = start >= 0 && end <= trimmed.size() && trimmed.subList(start, end).equals(code);
        Checks.due("README.md has the example that is run here", String.valueOf(same), "true");
    }

    private static void answersAreTold(String readme) {
        String[] told = {
            "// 5:", "// 15:", "// -56:", "its step, 8,", "// -444:", "// 1267:", "// 148:",
            "// 0x10202F3D4F5F7183", "// 0x1738557C4F5F7183:",
        };
        for (String text : told) {
            Checks.due("README.md tells " + text, String.valueOf(readme.contains(text)), "true");
        }
    }

    private static void everyCallIsTold(String readme) {
        for (Method method : WaveBlocks.class.getDeclaredMethods()) {
            if (Modifier.isPublic(method.getModifiers())) {
                boolean told = readme.contains("| `" + method.getName() + "(");
                Checks.due("README.md tells " + method.getName(), String.valueOf(told), "true");
            }
        }
    }

    public static void main(String[] args) throws IOException {
        List<String> readme = Files.readAllLines(Path.of("README.md"));
        example();
        sameCode(readme, Files.readAllLines(Path.of("src/test/java/ReadmeTest.java")));
        answersAreTold(String.join("\n", readme));
        everyCallIsTold(String.join("\n", readme));
        Checks.end();
    }
}
