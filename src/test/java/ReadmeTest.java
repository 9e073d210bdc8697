import java.io.IOException;
import java.lang.reflect.Method;
import java.nio.file.Files;
import java.nio.file.Path;
import java.util.ArrayList;
import java.util.List;
import java.util.regex.Matcher;
import java.util.regex.Pattern;

/** README.md: its example answers what it says, and it tells each call with what it throws. */
public final class ReadmeTest {
    private static final Pattern PLAYED = Pattern.compile(
            "purses\\.(\\w+)\\(([-0-9, ]*)\\); +// (-?\\d+)\\b.*");
    private static final Pattern DECLARED = Pattern.compile(
            " +public (\\w+ \\w+\\([^)]*\\))(?: throws ([^;]*))?;");
    private static final Pattern SHORT_NAME = Pattern.compile("\\b(IOOBE|IAE|ISE): ");

    public static void main(String[] args) throws IOException, ReflectiveOperationException {
        Check check = new Check("ReadmeTest");
        List<String> readme = Files.readAllLines(Path.of("README.md"));
        exampleAnswersWhatItSays(check, readme);
        eachCallIsTold(check, readme, Files.readAllLines(Path.of("../shared/DOC.md")));
        check.end();
    }

    private static void exampleAnswersWhatItSays(Check check, List<String> readme)
            throws ReflectiveOperationException {
        TravelPurses purses = new TravelPurses();
        int played = 0;
        for (String line : readme) {
            Matcher row = PLAYED.matcher(line);
            if (row.matches()) {
                long due = Long.parseLong(row.group(3));
                check.is(line, play(purses, row.group(1), row.group(2)), due);
                played++;
            } else if (line.startsWith("purses.")) {
                check.fail("no answer is told: " + line);
            }
        }
        check.is("lines of the example", played, 10);
    }

    private static long play(TravelPurses purses, String name, String list)
            throws ReflectiveOperationException {
        String[] numbers = list.isEmpty() ? new String[0] : list.split(", ");
        Object[] arguments = new Object[numbers.length];
        Class<?>[] types = new Class<?>[numbers.length];
        for (int i = 0; i < numbers.length; i++) {
            arguments[i] = Integer.valueOf(numbers[i]);
            types[i] = int.class;
        }
        Method method = TravelPurses.class.getMethod(name, types);
        return ((Number) method.invoke(purses, arguments)).longValue();
    }

    private static void eachCallIsTold(Check check, List<String> readme, List<String> document) {
        int told = 0;
        for (String line : document) {
            Matcher call = DECLARED.matcher(line);
            if (call.matches()) {
                String due = call.group(2) == null ? "" : call.group(2);
                check.isText(call.group(1), thrown(readme, call.group(1)), due);
                told++;
            }
        }
        check.is("calls of the document's face", told, 29);
    }

    /** What the call's row says that it throws, in that order. */
    private static String thrown(List<String> readme, String call) {
        for (String line : readme) {
            if (line.startsWith("| `" + call + "` | ")) {
                String[] cells = line.split("\\|", -1);
                return cells.length == 6 ? names(cells[4]) : "a row with too many cells";
            }
        }
        return "no row";
    }

    private static String names(String cell) {
        List<String> names = new ArrayList<>();
        Matcher name = SHORT_NAME.matcher(cell);
        while (name.find()) {
            names.add(switch (name.group(1)) {
                case "IOOBE" -> "IndexOutOfBoundsException";
                case "IAE" -> "IllegalArgumentException";
                default -> "IllegalStateException";
            });
        }
        return String.join(", ", names);
    }
}
