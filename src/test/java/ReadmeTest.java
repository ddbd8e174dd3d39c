import java.io.IOException;
import java.lang.reflect.Method;
import java.lang.reflect.Modifier;
import java.nio.charset.StandardCharsets;
import java.nio.file.Files;
import java.nio.file.Path;
import java.util.Arrays;
import java.util.List;
import java.util.regex.Matcher;
import java.util.regex.Pattern;

/** What README.md tells of the calls is so: each line of its example is called, and each call stands in its table. */
public final class ReadmeTest {
    private static final Pattern CALL = Pattern.compile("packer\\.(\\w+)\\(([^)]*)\\); +// (true|false|NONE|\\d+)(:.*)?");

    public static void main(String[] args) throws IOException, ReflectiveOperationException {
        List<String> lines = Files.readAllLines(Path.of("README.md"), StandardCharsets.UTF_8);
        example(lines);
        table(lines);
        Check.finish();
    }

    private static void example(List<String> lines) throws ReflectiveOperationException {
        BranchPacker packer = new BranchPacker();
        int calls = 0;
        for (String line : lines) {
            if (!line.startsWith("packer.")) {
                continue;
            }
            calls++;
            Matcher told = CALL.matcher(line);
            if (told.matches()) {
                Check.same(line, answer(packer, told.group(1), told.group(2)), told.group(3));
            } else {
                Check.due("a line that tells its answer: " + line, false, true);
            }
        }
        Check.due("an example is there", calls > 0, true);
    }

    private static String answer(BranchPacker packer, String name, String listed) throws ReflectiveOperationException {
        Object[] numbers = listed.isEmpty()
                ? new Object[0]
                : Arrays.stream(listed.split(", ")).map(Integer::valueOf).toArray();
        Class<?>[] types = new Class<?>[numbers.length];
        Arrays.fill(types, int.class);
        Object answer = BranchPacker.class.getMethod(name, types).invoke(packer, numbers);
        return answer.equals(BranchPacker.NONE) ? "NONE" : answer.toString();
    }

    private static void table(List<String> lines) {
        for (Method method : BranchPacker.class.getDeclaredMethods()) {
            String row = "| `" + method.getReturnType() + " " + method.getName() + "(";
            boolean isPublic = Modifier.isPublic(method.getModifiers());
            boolean isTold = lines.stream().anyMatch(line -> line.startsWith(row));
            Check.due("a row of the table that begins " + row, isTold, isPublic);
        }
    }
}
