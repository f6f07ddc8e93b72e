import java.nio.file.Files;
import java.nio.file.Path;
import java.util.regex.Matcher;
import java.util.regex.Pattern;

/** The rows of README.md that call an object answer what stands behind them. */
public final class ReadmeTest {
    private static final Due DUE = new Due("ReadmeTest");
    private static final Pattern ROW =
            Pattern.compile("foot\\.(\\w+)\\(([^)]*)\\);\\s+// (-?\\d+): .*");

    public static void main(String[] args) throws Exception {
        TowerFoot foot = null;
        int made = 0;
        int rows = 0;
        for (String line : Files.readAllLines(Path.of("README.md"))) {
            if (line.equals("TowerFoot foot = new TowerFoot();")) {
                foot = new TowerFoot();
                made++;
            } else if (line.startsWith("foot.")) {
                Matcher m = ROW.matcher(line);
                boolean whole = m.matches() && foot != null;
                DUE.due("a row of an object: " + line, whole ? 1 : 0, 1);
                if (whole) {
                    long got = Calls.call(foot, m.group(1), numbers(m.group(2)));
                    DUE.due(line, got, Long.parseLong(m.group(3)));
                    rows++;
                }
            }
        }
        DUE.due("objects", made >= 4 ? 1 : 0, 1);
        DUE.due("rows", rows >= 40 ? 1 : 0, 1);
        DUE.end();
    }

    private static int[] numbers(String told) {
        String[] each = told.isEmpty() ? new String[0] : told.split(", ");
        int[] numbers = new int[each.length];
        for (int i = 0; i < each.length; i++) {
            numbers[i] = each[i].equals("TowerFoot.NONE") ? -1 : Long.decode(each[i]).intValue();
        }
        return numbers;
    }
}
