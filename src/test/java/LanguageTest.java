import java.nio.file.Files;
import java.nio.file.Path;
import java.util.ArrayList;
import java.util.List;
import java.util.Map;
import java.util.Set;
import java.util.TreeMap;
import java.util.TreeSet;
import java.util.regex.Matcher;
import java.util.regex.Pattern;

/** What can be seen in the source of the rules of LANGUAGE.md; run from the project's folder. */
public final class LanguageTest {
    private static final Due DUE = new Due("LanguageTest");
    private static final int DEEPEST = 8;
    private static final Set<String> LIBRARY = Set.of("Integer.bitCount", "Math.max", "Math.min",
            "Math.abs", "System.arraycopy", "Arrays.copyOf", "Arrays.fill");

    public static void main(String[] args) throws Exception {
        String source = Files.readString(Path.of("src/main/java/TowerFoot.java"));
        for (int i = 0; i < source.length(); i++) {
            if (source.charAt(i) > 127) {
                DUE.due("sign at " + i, source.charAt(i), 0);
            }
        }
        String bare = source.replaceAll("(?s)/\\*.*?\\*/", "").replaceAll("//[^\n]*", "");
        String code = bare.replaceAll("'(\\\\.|[^'\\\\])'", "' '").replaceAll("\"[^\"\n]*\"", "\"\"");
        never(code);
        library(code);
        Map<String, String> bodies = methods(code);
        depth(bodies);
        DUE.end();
    }

    private static void never(String code) {
        String[] never = {"\\bthrow\\b", "\\bthrows\\b", "\\btry\\b", "\\bcatch\\b", "\\bfinally\\b",
            "\\bsynchronized\\b", "\\bassert\\b", "->", "::", "\\bpackage\\b", "\\bprotected\\b",
            "static\\s*\\{", "\\bvar\\b", "\\w+Exact\\b",
            "\\bfloat\\b", "\\bdouble\\b", "\\bvolatile\\b", "\\bnative\\b", "\\bhashCode\\b",
            "\\btoString\\b", "\\bObject\\b", "\"\\s*\\+", "\\+\\s*\"", "@\\w+",
            "import (?!java\\.util\\.(Arrays|ArrayList|List);)", "\\bjava\\.(?!util\\.)",
            "static (?!final|boolean|int|long|void)", "\\bpublic static (?!final int NONE)",
            "while \\(true\\)", "for \\(;;\\)", "\\[\\]\\[\\]"};
        for (String pattern : never) {
            Matcher m = Pattern.compile(pattern).matcher(code);
            DUE.due("never " + pattern, m.find() ? 1 : 0, 0);
        }
    }

    /** Rule 4: only what stands there; constants like the least int do not. */
    private static void library(String code) {
        Matcher m = Pattern.compile(
                "\\b(Integer|Long|Math|System|Arrays|String|List)\\.\\w+").matcher(code);
        int found = 0;
        while (m.find()) {
            found++;
            DUE.due(m.group() + " is in rule 4", LIBRARY.contains(m.group()) ? 1 : 0, 1);
        }
        DUE.due("library calls found", found > 10 ? 1 : 0, 1);
    }

    /** Rule 11: seven numbers, sixty lines. Answers the methods' bodies by their names. */
    private static Map<String, String> methods(String code) {
        Matcher m = Pattern.compile("(?m)^( {4}| {8})(public |private |static )*"
                + "[\\w\\[\\]]+ ?(\\w*)\\(([^;{]*)\\) \\{\n").matcher(code);
        Map<String, String> bodies = new TreeMap<>();
        int found = 0;
        while (m.find()) {
            found++;
            String head = m.group().trim();
            String numbers = m.group(4).trim();
            int many = numbers.isEmpty() ? 0 : numbers.split(",").length;
            DUE.due("seven numbers at most: " + head, many <= 7 ? 1 : 0, 1);
            int end = code.indexOf("\n" + m.group(1) + "}\n", m.end() - 1);
            DUE.due("an end of " + head, end > 0 ? 1 : 0, 1);
            int lines = code.substring(m.start(), end + 1).split("\n").length + 1;
            DUE.due("sixty lines at most, not " + lines + ": " + head, lines <= 60 ? 1 : 0, 1);
            bodies.merge(m.group(3), code.substring(m.end() - 1, end + 1), String::concat);
        }
        DUE.due("methods found", found > 100 ? 1 : 0, 1);
        return bodies;
    }

    /** Rule 11: calls that are no recursion, eight deep at most. Alike names count as one method. */
    private static void depth(Map<String, String> bodies) {
        Map<String, Set<String>> calls = new TreeMap<>();
        for (Map.Entry<String, String> one : bodies.entrySet()) {
            Set<String> called = new TreeSet<>();
            Matcher m = Pattern.compile("\\b(\\w+)\\(").matcher(one.getValue());
            while (m.find()) {
                if (bodies.containsKey(m.group(1)) || LIBRARY.toString().contains("." + m.group(1))
                        || m.group(1).equals("charAt")) {
                    called.add(m.group(1));
                }
            }
            calls.put(one.getKey(), called);
        }
        for (String[] call : Calls.FACE) {
            List<String> deepest = deepest(call[0], calls, new ArrayList<>());
            DUE.due("eight deep at most: " + deepest, deepest.size() <= DEEPEST ? 1 : 0, 1);
        }
    }

    /** The longest chain of calls from here, without those that come to themselves again. */
    private static List<String> deepest(String from, Map<String, Set<String>> calls,
            List<String> open) {
        List<String> best = new ArrayList<>();
        open.add(from);
        for (String to : calls.getOrDefault(from, Set.of())) {
            if (!open.contains(to)) {
                List<String> chain = deepest(to, calls, open);
                best = chain.size() > best.size() ? chain : best;
            }
        }
        open.remove(from);
        if (!comesBack(from, calls)) {
            best.add(0, from);
        }
        return best;
    }

    private static boolean comesBack(String name, Map<String, Set<String>> calls) {
        Set<String> reached = new TreeSet<>(calls.getOrDefault(name, Set.of()));
        for (int before = -1; before != reached.size();) {
            before = reached.size();
            for (String one : List.copyOf(reached)) {
                reached.addAll(calls.getOrDefault(one, Set.of()));
            }
        }
        return reached.contains(name);
    }
}
