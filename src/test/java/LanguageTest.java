import java.nio.file.Files;
import java.nio.file.Path;
import java.util.regex.Matcher;
import java.util.regex.Pattern;

/** What can be seen in the source of the rules of LANGUAGE.md; run from the project's folder. */
public final class LanguageTest {
    private static final Due DUE = new Due("LanguageTest");

    public static void main(String[] args) throws Exception {
        String source = Files.readString(Path.of("src/main/java/TowerFoot.java"));
        for (int i = 0; i < source.length(); i++) {
            if (source.charAt(i) > 127) {
                DUE.due("sign at " + i, source.charAt(i), 0);
            }
        }
        String bare = source.replaceAll("(?s)/\\*.*?\\*/", "").replaceAll("//[^\n]*", "");
        String code = bare.replaceAll("'(\\\\.|[^'\\\\])'", "' '").replaceAll("\"[^\"\n]*\"", "\"\"");
        String[] never = {"\\bthrow\\b", "\\bthrows\\b", "\\btry\\b", "\\bcatch\\b", "\\bfinally\\b",
            "\\bsynchronized\\b", "\\bassert\\b", "->", "::", "\\bpackage\\b", "\\bprotected\\b",
            "static\\s*\\{", "\\bvar\\b", "\\bSystem\\.(?!arraycopy)", "\\w+Exact\\b",
            "\\bfloat\\b", "\\bdouble\\b", "\\bvolatile\\b", "\\bnative\\b", "\\bhashCode\\b",
            "\\btoString\\b", "\\bObject\\b", "\"\\s*\\+", "\\+\\s*\"", "@\\w+",
            "import (?!java\\.util\\.(Arrays|ArrayList|List);)", "\\bjava\\.(?!util\\.)",
            "static (?!final|boolean|int|long|void)", "\\bpublic static (?!final int NONE)",
            "while \\(true\\)", "for \\(;;\\)", "\\[\\]\\[\\]"};
        for (String pattern : never) {
            Matcher m = Pattern.compile(pattern).matcher(code);
            DUE.due("never " + pattern, m.find() ? 1 : 0, 0);
        }
        methods(code);
        DUE.end();
    }

    private static void methods(String code) {
        Matcher m = Pattern.compile("(?m)^( {4}| {8})(public |private |static )*"
                + "[\\w\\[\\]]+ ?\\w*\\(([^;{]*)\\) \\{\n").matcher(code);
        int found = 0;
        while (m.find()) {
            found++;
            String head = m.group().trim();
            String numbers = m.group(3).trim();
            int many = numbers.isEmpty() ? 0 : numbers.split(",").length;
            DUE.due("seven numbers at most: " + head, many <= 7 ? 1 : 0, 1);
            int end = code.indexOf("\n" + m.group(1) + "}\n", m.end() - 1);
            DUE.due("an end of " + head, end > 0 ? 1 : 0, 1);
            int lines = code.substring(m.start(), end + 1).split("\n").length + 1;
            DUE.due("sixty lines at most, not " + lines + ": " + head, lines <= 60 ? 1 : 0, 1);
        }
        DUE.due("methods found", found > 100 ? 1 : 0, 1);
    }
}
