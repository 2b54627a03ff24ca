import java.io.IOException;
import java.lang.reflect.Method;
import java.nio.file.Files;
import java.nio.file.Path;
import java.util.List;
import java.util.regex.Matcher;
import java.util.regex.Pattern;

/** What README.md says of the calls: its lines of Java are run, and no call of the face is missing. */
public final class ReadmeTest {
    private static final Pattern CALL = Pattern.compile("rounds\\.(\\w+)\\((.*)\\); *// (?:(\\d+): )?.*");
    private static final Pattern ROW = Pattern.compile("\\| `(\\w+)\\((.*)\\)` \\|.*");
    private static final Checks CHECKS = new Checks();

    public static void main(String[] args) throws IOException, ReflectiveOperationException {
        List<String> lines = Files.readAllLines(Path.of("README.md"));
        CHECKS.due("README.md has lines of Java with answers", runLines(lines) > 0, true);
        for (Method method : FolderRounds.class.getMethods()) {
            if (method.getDeclaringClass() == FolderRounds.class) {
                CHECKS.due("rows of README.md on " + method.getName(), countRows(lines, method), 1);
            }
        }
        CHECKS.finish();
    }

    /** Answers how many of the lines tell an answer. */
    private static int runLines(List<String> lines) throws ReflectiveOperationException {
        FolderRounds rounds = new FolderRounds();
        int told = 0;
        for (String line : lines) {
            Matcher call = CALL.matcher(line);
            if (call.matches()) {
                Object answer = answerOf(rounds, call.group(1), call.group(2));
                String due = call.group(3);
                told += due == null ? 0 : 1;
                CHECKS.due(line + " is as README.md says", due == null ? answer == null : due.equals(String.valueOf(answer)), true);
            }
        }
        return told;
    }

    private static Object answerOf(FolderRounds rounds, String name, String arguments) throws ReflectiveOperationException {
        String[] texts = arguments.split(", ");
        Class<?>[] types = new Class<?>[texts.length];
        Object[] values = new Object[texts.length];
        for (int i = 0; i < texts.length; i++) {
            types[i] = int.class;
            values[i] = texts[i].startsWith("0b") ? Integer.parseInt(texts[i].substring(2), 2) : Integer.parseInt(texts[i]);
        }
        return FolderRounds.class.getMethod(name, types).invoke(rounds, values);
    }

    private static int countRows(List<String> lines, Method method) {
        int rows = 0;
        for (String line : lines) {
            Matcher row = ROW.matcher(line);
            if (row.matches() && row.group(1).equals(method.getName())) {
                int arguments = row.group(2).isEmpty() ? 0 : row.group(2).split(", ").length;
                rows += arguments == method.getParameterCount() ? 1 : 0;
            }
        }
        return rows;
    }
}
