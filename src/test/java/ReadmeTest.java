import java.io.IOException;
import java.nio.file.Files;
import java.nio.file.Path;
import java.util.regex.Matcher;
import java.util.regex.Pattern;

/** Makes the calls that README.md shows, line by line, and holds their answers against those it tells. */
public final class ReadmeTest {
    private static final Pattern LINE = Pattern.compile("tree\\.(\\w+)\\(([^)]*)\\);\\s*// (true|false|-?\\d+)\\b.*");
    private static final int LINES = 10;

    public static void main(String[] args) throws IOException, ReflectiveOperationException {
        PathTree tree = new PathTree();
        int made = 0;
        for (String line : Files.readAllLines(Path.of("README.md"))) {
            Matcher shown = LINE.matcher(line);
            if (shown.matches()) {
                String got = answer(tree, shown.group(1), shown.group(2));
                Run.due(line + " as told, but " + got, got.equals(shown.group(3)), true);
                made++;
            }
        }
        Run.due("calls shown in README.md", made, LINES);
        Run.finish();
    }

    private static String answer(PathTree tree, String call, String written) throws ReflectiveOperationException {
        String[] numbers = written.isEmpty() ? new String[0] : written.split(", ");
        Class<?>[] types = new Class<?>[numbers.length];
        Object[] values = new Object[numbers.length];
        for (int i = 0; i < numbers.length; i++) {
            boolean isLong = i == 0 && (call.equals("path") || call.equals("write"));
            types[i] = isLong ? long.class : int.class;
            values[i] = isLong ? (Object) Long.decode(numbers[i]) : (Object) Integer.decode(numbers[i]);
        }
        return String.valueOf(PathTree.class.getMethod(call, types).invoke(tree, values));
    }
}
