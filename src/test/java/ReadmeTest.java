import java.io.IOException;
import java.nio.file.Files;
import java.nio.file.Path;
import java.util.ArrayList;
import java.util.List;
import java.util.regex.Matcher;
import java.util.regex.Pattern;

/** What README.md shows is what the class answers: each line "x.call(..);  // answer" is called, in order. */
public final class ReadmeTest {
    private static final Pattern SHOWN = Pattern.compile("x\\.(\\w+)\\(([^)]*)\\); +// (-?\\d+).*");

    public static void main(String[] args) throws IOException {
        Check check = new Check("ReadmeTest");
        WindWords x = new WindWords();
        int shown = 0;
        for (String line : Files.readAllLines(Path.of("README.md"))) {
            Matcher call = SHOWN.matcher(line);
            if (call.matches()) {
                shown++;
                check.same(line, answer(x, call.group(1), numbers(call.group(2))), Long.parseLong(call.group(3)));
            }
        }
        check.same("calls shown", shown > 15, true);
        check.end();
    }

    private static List<Integer> numbers(String given) {
        List<Integer> all = new ArrayList<>();
        for (String one : given.split(",")) {
            if (!one.isBlank()) {
                all.add(Integer.decode(one.trim()));
            }
        }
        return all;
    }

    private static int answer(WindWords x, String name, List<Integer> given) {
        Class<?>[] types = new Class<?>[given.size()];
        java.util.Arrays.fill(types, int.class);
        try {
            return (int) WindWords.class.getMethod(name, types).invoke(x, given.toArray());
        } catch (ReflectiveOperationException e) {
            throw new IllegalStateException("README.md shows a call that is none: " + name + given, e);
        }
    }
}
