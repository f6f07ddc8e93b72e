import java.util.List;

/** The edges that Terms II and promises 13 to 15 name of TEXTS: their bytes, TOKENS, FAULTS. */
public final class LawEdgeTest {
    private static final Due DUE = new Due("LawEdgeTest");
    private static final int MIN = Integer.MIN_VALUE;
    private static final int MAX = Integer.MAX_VALUE;
    private static final String[] FAULT = {"fault["};
    private static final String[] TOKENS = {"quick", "if", "or", "and", "not", "(", ")", "[", "]",
        "<", ">", "=", "+", "-", "*", "/", ";", "0", "7", "1000", "1001", "kind", "rise", "high",
        "trees", "screen", "x", "y", "way", "off", "a", "quicks", "iff", "xy", "#", "\t", "A",
        "_", ",", ".", "!", "{", "}", "\u00ff", "\u0000"};
    private static final String PART_BEGINS =
            " 0 7 1000 [ kind rise high trees screen x y way off ";
    private static final String PLAIN_BEGINS = PART_BEGINS + "not ( ";

    public static void main(String[] args) {
        promise13Number();
        promise13EmptyTape();
        promise13NoRoom();
        promise13TapeIsEmptyThen();
        promise14Latest();
        promise15Force();
        termsEachByte();
        termsBlanksBetween();
        termsLongestRows();
        termsWhatMayFollow();
        termsEveryCut();
        termsEveryToken();
        termsTwelveClauses();
        termsNumberTo1000();
        termsFiftyParts();
        termsEightBrackets();
        termsTapeOf400();
        DUE.end();
    }

    private static int faultOf(String text) {
        TowerFoot t = Run.bare().text(text).play();
        int answer = t.law();
        int fault = t.fault();
        DUE.due("law of \"" + text + "\"", answer, fault == -1 ? 0 : -6);
        DUE.due("status of \"" + text + "\"", t.status(), fault == -1 ? 0 : -6);
        return fault;
    }

    private static void fault(int want, String text) {
        DUE.due("FAULT of \"" + text + "\"", faultOf(text), want);
    }

    private static void promise13Number() {
        Run run = Run.bare();
        for (int i = 0; i < 6; i++) {
            run = run.text("quick " + i);
            new Edge(DUE, run).of("its number, 6 at most").taken(i, "law");
            run = run.then("law");
            DUE.due("LAWS", run.play().count(2), i + 1);
        }
        TowerFoot t = run.play();
        for (int i = 0; i < 6; i++) {
            t.force(i);
            DUE.due("each is kept", t.kind(0, 0, 6), i);
        }
        Run again = Run.bare().then("image", 0).then(run).then("back", 0).text("quick 9");
        new Edge(DUE, again).of("BACK there is room").taken(0, "law");
    }

    private static void promise13EmptyTape() {
        for (Run run : new Run[] {Run.bare(), Run.some().then("end", 0)}) {
            new Edge(DUE, run).of("an empty TAPE").refusedBut(run, -6, FAULT, "law");
            DUE.due("FAULT at the end", run.then("law").play().fault(), 0);
        }
        for (int blanks : new int[] {1, 2, 19, 20, 21, 399, 400}) {
            Run run = Run.bare().text(" ".repeat(blanks));
            new Edge(DUE, run).of("blanks alone")
                    .refusedBut(run.then("end", 0), -6, FAULT, "law");
            fault(blanks, " ".repeat(blanks));
        }
        fault(1, " #");
        fault(-1, " quick 1");
    }

    private static void promise13NoRoom() {
        Run six = Run.full();
        for (String text : new String[] {"quick 1", "quick", "", "   "}) {
            Run run = six.text(text);
            new Edge(DUE, run).of("-5 (ahead of reading it)")
                    .refusedBut(run.then("end", 0), -5, new String[0], "law");
            DUE.due("the TAPE is empty then, too", run.then("law").play().count(6), 0);
            DUE.due("FAULT of what was read", run.then("law").play().fault(), -1);
        }
        Run faulty = Run.bare();
        for (int i = 0; i < 5; i++) {
            faulty = faulty.law("quick 1");
        }
        faulty = faulty.law("quick 1;").law("quick 1").text("quick #");
        DUE.due("FAULT of the sixth", faulty.then("law").play().fault(), -1);
        Run before = Run.bare().law("quick 1;");
        DUE.due("FAULT of one that was read", before.play().fault(), 8);
        Run five = Run.bare();
        for (int i = 0; i < 5; i++) {
            five = five.law("quick 1");
        }
        Run read = five.text("quick 1;");
        new Edge(DUE, read).of("-6 where there is room")
                .refusedBut(read.then("end", 0), -6, FAULT, "law");
        Run kept = five.then("image", 0).law("quick 1").then("image", 1).then("back", 0)
                .law("quick #").then("back", 1).text("quick 12345");
        new Edge(DUE, kept).refusedBut(kept.then("end", 0), -5, new String[0], "law");
        DUE.due("FAULT is that of the latest that was read", kept.then("law").play().fault(), 6);
    }

    private static void promise13TapeIsEmptyThen() {
        for (String text : new String[] {"quick 1", "quick", "#", " "}) {
            DUE.due("bytes behind \"" + text + "\"", Run.bare().law(text).play().count(6), 0);
        }
        Run run = Run.some().text("quick 1 if x");
        new Edge(DUE, run).of("-6").refusedBut(run.then("end", 0), -6, FAULT, "law");
        Run good = Run.some().text("quick 1");
        new Edge(DUE, good).of("a LAW").taken(2, "law");
        DUE.due("none is in FORCE by that", good.then("law").play().count(12), 0);
    }

    private static void promise14Latest() {
        new Edge(DUE, Run.bare()).of("ahead of any").asked(-1, "fault");
        Run bad = Run.bare().law("quick 1 if");
        new Edge(DUE, bad).of("its place").asked(10, "fault");
        new Edge(DUE, bad.law("quick 1")).of("NONE without").asked(-1, "fault");
        new Edge(DUE, bad.law("#")).of("the latest").asked(0, "fault");
        new Edge(DUE, bad.text("#")).of("not yet read").asked(10, "fault");
        new Edge(DUE, bad.text("#").then("row")).of("read as a ROW").asked(10, "fault");
        new Edge(DUE, Run.bare().then("image", 1).then(bad).then("back", 1))
                .of("IMAGES don't keep it").asked(10, "fault");
        new Edge(DUE, bad.then("image", 1).law("quick 1").then("back", 1))
                .of("IMAGES don't keep it").asked(-1, "fault");
    }

    private static void promise15Force() {
        Edge bare = new Edge(DUE, Run.bare()).of("no LAW");
        bare.taken(-1, "force", -1);
        for (int law : new int[] {MIN, -3, -2, 0, 1, 5, 6, MAX}) {
            bare.refused(-2, "force", law);
        }
        Run two = Run.bare().law("quick 1").law("quick 2");
        Edge some = new Edge(DUE, two).of("which was");
        some.taken(-1, "force", 0);
        some.taken(-1, "force", 1);
        some.taken(-1, "force", -1);
        some.after("force", 1).taken(1, "force", 0);
        some.after("force", 1).taken(1, "force", 1);
        some.after("force", 0).taken(0, "force", -1);
        for (int law : new int[] {MIN, -2, 2, 3, 5, 6, MAX}) {
            some.of("-2").refused(-2, "force", law);
            some.after("force", 1).refused(-2, "force", law);
        }
        Run six = Run.full().then("force", 0);
        new Edge(DUE, six).of("the last of six").taken(0, "force", 5);
        new Edge(DUE, six).of("beyond six").refused(-2, "force", 6);
        TowerFoot t = two.play();
        DUE.due("NONE at first: no CLAUSE", t.kind(0, 0, 6), 100);
        t.force(1);
        DUE.due("in FORCE", t.kind(0, 0, 6), 2);
        t.force(-1);
        DUE.due("NONE: none", t.kind(0, 0, 6), 100);
    }

    /** Every byte at four places of a TEXT: it goes on there, or the FAULT is where it must be. */
    private static void termsEachByte() {
        for (int b = 0; b < 256; b++) {
            char c = (char) b;
            boolean letter = c >= 'a' && c <= 'z';
            boolean digit = c >= '0' && c <= '9';
            boolean sign = "+-*/;".indexOf(c) >= 0;
            fault(c == ' ' || digit ? -1 : sign ? 8 : 7, "quick 1" + c);
            fault(c == ' ' ? -1 : 0, c + "quick 1");
            fault(c == ' ' || digit ? -1 : letter ? 0 : c == '[' ? 7 : 5, "quick" + c + "1");
            fault(0, "qui" + c + "ck 1");
            fault("<>=".indexOf(c) >= 0 ? -1 : "+-*/".indexOf(c) >= 0 ? 14 : c == ' ' ? 13
                    : letter ? 11 : 12, "quick 1 if x" + c + "1");
        }
    }

    private static void termsBlanksBetween() {
        fault(-1, "quick1+2*[3-x]/y if not(1<2)or 3>4and 5=6;quick 7");
        fault(-1, "  quick  1  +  2  *  [  3  -  x  ]  /  y  if  not  (  1  <  2  )  or  3  >  4  ;"
                + "  quick  7  ");
        fault(0, "qu ick 1");
        fault(0, "quickif");
        fault(6, "quick ki nd");
        fault(8, "quick 1 0");
        fault(8, "quick x y");
        fault(7, "quick 1\n");
        fault(7, "quick 1\r");
        fault(7, "quick 1\t");
        fault(7, "quick 1\u00a0");
    }

    private static void termsLongestRows() {
        fault(-1, "quick1");
        fault(0, "quickx");
        fault(7, "quick 1x");
        fault(7, "quick x1");
        fault(6, "quick xy");
        fault(6, "quick kindrise");
        fault(6, "quick hig");
        fault(6, "quick highs");
        fault(-1, "quick 1if x<2or y<3and 1<1");
        fault(7, "quick 1ifx<2");
        fault(8, "quick 1 iff x<2");
        fault(14, "quick 1 if 1<2orx<3");
        fault(11, "quick 1 if notx<3");
        fault(-1, "quick 1 if not[x]<3");
        fault(9, "quick [x]y");
    }

    /** In each state the TOKENS that can go on; the FAULT of all others is at their place. */
    private static void termsWhatMayFollow() {
        String[][] states = {
            {"", " quick "}, {"quick 1 ;", " quick "}, {"quick 1 if x < 2 ;", " quick "},
            {"quick", PART_BEGINS}, {"quick 1 +", PART_BEGINS}, {"quick 1 -", PART_BEGINS},
            {"quick 1 *", PART_BEGINS}, {"quick 1 /", PART_BEGINS}, {"quick [", PART_BEGINS},
            {"quick [ 1 +", PART_BEGINS}, {"quick 1 if x <", PART_BEGINS},
            {"quick 1 if x >", PART_BEGINS}, {"quick 1 if x =", PART_BEGINS},
            {"quick 1 if x = 1 *", PART_BEGINS}, {"quick 1 if [", PART_BEGINS},
            {"quick 1 if", PLAIN_BEGINS}, {"quick 1 if not", PLAIN_BEGINS},
            {"quick 1 if not not", PLAIN_BEGINS}, {"quick 1 if (", PLAIN_BEGINS},
            {"quick 1 if ( not", PLAIN_BEGINS}, {"quick 1 if x < 2 or", PLAIN_BEGINS},
            {"quick 1 if x < 2 and", PLAIN_BEGINS}, {"quick 1 if ( x < 2 or", PLAIN_BEGINS},
            {"quick x", " + - * / if ; "}, {"quick 1 * way", " + - * / if ; "},
            {"quick [ 1 ]", " + - * / if ; "}, {"quick 1 ; quick 1", " + - * / if ; "},
            {"quick [ x", " + - * / ] "}, {"quick [ [ x ]", " + - * / ] "},
            {"quick 1 if [ x", " + - * / ] "}, {"quick 1 if x = [ y", " + - * / ] "},
            {"quick 1 if x", " + - * / < > = "}, {"quick 1 if not off", " + - * / < > = "},
            {"quick 1 if ( x", " + - * / < > = "}, {"quick 1 if [ x ]", " + - * / < > = "},
            {"quick 1 if x < 2 or y", " + - * / < > = "},
            {"quick 1 if x < y", " + - * / or and ; "}, {"quick 1 if x < [ y ]", " + - * / or and ; "},
            {"quick 1 if x < y and 1 = x", " + - * / or and ; "},
            {"quick 1 if ( x < y", " + - * / or and ) "},
            {"quick 1 if ( x < y or 1 = x", " + - * / or and ) "},
            {"quick 1 if ( x < y )", " or and ; "}, {"quick 1 if not ( x < y )", " or and ; "},
            {"quick 1 if ( ( x < y )", " or and ) "},
        };
        for (String[] state : states) {
            for (String token : TOKENS) {
                String text = state[0] + " " + token;
                int place = state[0].length() + 1;
                int fault = faultOf(text);
                boolean goesOn = state[1].contains(" " + token + " ");
                DUE.due("FAULT at the last of \"" + text + "\"", fault == place ? 0 : 1,
                        goesOn ? 1 : 0);
                DUE.due("FAULT not ahead of that", fault == -1 || fault >= place ? 1 : 0, 1);
            }
            boolean whole = state[1].contains(" ; ");
            fault(whole ? -1 : state[0].length(), state[0]);
            fault(whole ? -1 : state[0].length() + 3, state[0] + "   ");
        }
    }

    private static final String[] TEXTS = {
        "quick 100+rise*2-trees*3;quick [50-off]*[x+1] if kind=4 and not (off<3 or screen>2)",
        " quick 7 if ((x<3)or(y<3))and not not[way]=1000;  quick  high/[0-2]  ",
        "quick [[[[[[[[1]]]]]]]]+x if (((((((x=1)))))) and 1<2) or [1]=[2];quick 000",
    };

    /** The end, wherever it comes: the TEXT's length, or ahead of it what was cut in two. */
    private static void termsEveryCut() {
        for (String text : TEXTS) {
            fault(-1, text);
            for (int n = 0; n < text.length(); n++) {
                String cut = text.substring(0, n);
                int want = new Oracle.Text(cut).fault();
                fault(want, cut);
                TowerFoot t = Run.bare().text(text).then("end", n).then("law").play();
                DUE.due("FAULT of \"" + cut + "\", more of it cut off", t.fault(), want);
            }
        }
    }

    /** Each TOKEN left out, doubled, or another one in its place. */
    private static void termsEveryToken() {
        for (String text : TEXTS) {
            List<String> tokens = new Oracle.Text(text).tokens;
            for (int i = 0; i < tokens.size(); i++) {
                spoil(tokens, i, "");
                spoil(tokens, i, tokens.get(i) + " " + tokens.get(i));
                for (String token : TOKENS) {
                    spoil(tokens, i, token);
                }
            }
        }
    }

    private static void spoil(List<String> tokens, int place, String instead) {
        StringBuilder text = new StringBuilder();
        for (int i = 0; i < tokens.size(); i++) {
            text.append(i == place ? instead : tokens.get(i)).append(' ');
        }
        fault(new Oracle.Text(text.toString()).fault(), text.toString());
    }

    private static void termsTwelveClauses() {
        for (String clause : new String[] {"quick 1", "quick x if y<3", "quick 1 if (1<2)"}) {
            String text = clause;
            for (int n = 2; n <= 12; n++) {
                text += ";" + clause;
                fault(-1, text);
            }
            int length = text.length();
            fault(length + 1, text + ";");
            fault(length + 1, text + ";" + clause);
            fault(length + 3, text + " ; " + clause);
            fault(length + 1, text + ";;");
            fault(length + 4, text + ";   ");
            fault(length, text + ")");
        }
    }

    private static void termsNumberTo1000() {
        fault(-1, "quick 0");
        fault(-1, "quick 999");
        fault(-1, "quick 1000");
        fault(6, "quick 1001");
        fault(6, "quick 1010");
        fault(6, "quick 2000");
        fault(6, "quick 10000");
        fault(-1, "quick 00");
        fault(-1, "quick 01000");
        fault(6, "quick 01001");
        // what is 0 or 1 again, if a number goes round at 32 or 64 bits
        fault(6, "quick 4294967296");
        fault(6, "quick 4294967297");
        fault(6, "quick 18446744073709551617");
        fault(6, "quick " + "9".repeat(394));
        fault(-1, "quick " + "0".repeat(393) + "7");
        fault(-1, "quick 1 if 1000<1000");
        fault(11, "quick 1 if 1001<1000");
        fault(16, "quick 1 if 1000<1001");
        fault(7, "quick [1001]");
        TowerFoot t = Run.bare().law("quick 1000-999").then("force", 0).play();
        DUE.due("1000 is 1000", t.kind(0, 0, 6), 1);
    }

    private static void termsFiftyParts() {
        for (String part : new String[] {"1", "x", "kind", "off"}) {
            String fifty = "quick " + part + ("+" + part).repeat(49);
            String fortyNine = "quick " + part + ("+" + part).repeat(48);
            fault(-1, fortyNine);
            fault(-1, fifty);
            fault(fifty.length() + 1, fifty + "+" + part);
            fault(fifty.length() + 2, fifty + "*[" + part + "]");
            fault(fifty.length() + 4, fifty + " if " + part + "=1");
            fault(fortyNine.length() + 5 + part.length(), fortyNine + " if " + part + "=1");
            fault(fifty.length() + 7, fifty + ";quick " + part);
            fault(fifty.length() + 8, fifty + " if not 1=1");
            fault(-1, fortyNine + ";quick " + part);
        }
        Run six = Run.bare();
        for (int i = 0; i < 6; i++) {
            six = six.law("quick " + i + "+1".repeat(49));
        }
        TowerFoot t = six.play();
        for (int i = 0; i < 6; i++) {
            DUE.due("50 PARTS of each LAW", t.force(i), i - 1);
            DUE.due("50 PARTS of each LAW", t.kind(0, 0, 6), i + 49);
        }
        String clauses = "quick 1 if 1<2 and 1<3;".repeat(10);
        fault(clauses.length(), clauses.substring(0, clauses.length() - 1) + "+1");
        fault(-1, clauses.substring(0, clauses.length() - 1));
        fault(clauses.length() + 6, clauses + "quick 1");
        fault(-1, "quick " + "[".repeat(5) + "1" + "]".repeat(5) + "+[1]".repeat(49));
    }

    private static void termsEightBrackets() {
        for (int n = 1; n <= 10; n++) {
            fault(n <= 8 ? -1 : 14, "quick " + "[".repeat(n) + "1" + "]".repeat(n));
            fault(n <= 8 ? -1 : 19, "quick 1 if " + "(".repeat(n) + "1<2" + ")".repeat(n));
            fault(n <= 8 ? -1 : 19, "quick 1 if " + "[".repeat(n) + "1" + "]".repeat(n) + "=1");
            fault(n <= 8 ? -1 : 21, "quick 1 if 1=" + "[".repeat(n) + "1" + "]".repeat(n));
            for (int round = 0; round <= n; round++) {
                String mixed = "quick 1 if " + "(".repeat(round) + "[".repeat(n - round) + "1"
                        + "]".repeat(n - round) + "<2" + ")".repeat(round);
                fault(n <= 8 ? -1 : 19, mixed);
            }
        }
        String eight = "[".repeat(8) + "1" + "]".repeat(8);
        fault(-1, "quick " + eight + "+" + eight + "*" + eight);
        fault(-1, "quick 1 if " + eight + "<" + eight + " or " + eight + "=1");
        fault(-1, "quick 1 if (1<2) and ((((((((1<2)))))))) and (1<2)");
        fault(8 + 8, "quick 1+" + "[".repeat(8) + "[");
        fault(8 + 11, "quick 1+" + "[".repeat(7) + "[1]+#");
        fault(8 + 8 + 2, "quick 1+" + "[".repeat(8) + "1+[1]");
        fault(-1, "quick 1+" + "[".repeat(7) + "[1]+[1]" + "]".repeat(7));
        fault(8 + 12, "quick 1+" + "[".repeat(7) + "[1]+[[1]]" + "]".repeat(7));
    }

    private static void termsTapeOf400() {
        String full = "quick 1 if x<2" + " ".repeat(385) + ";";
        fault(400, full);
        String law = "quick 1" + " ".repeat(385) + "if y<3 ";
        DUE.due("so long", law.length(), 399);
        fault(-1, law);
        fault(-1, law + " ");
        fault(399, law + ")");
        fault(399, law + "(");
        fault(-1, "quick 8 if " + "not ".repeat(96) + " x=0 ");
        TowerFoot t = Run.bare().law("quick 8 if " + "not ".repeat(95) + "x=0").then("force", 0).play();
        DUE.due("an odd number of nots", t.kind(0, 0, 6), 100);
        DUE.due("an odd number of nots", t.kind(1, 0, 6), 8);
        t = Run.bare().law("quick 8 if " + "not ".repeat(96) + "x=0").then("force", 0).play();
        DUE.due("an even number of nots", t.kind(0, 0, 6), 8);
        DUE.due("an even number of nots", t.kind(1, 0, 6), 100);
        termsAsManyTokensAsBytes();
    }

    /** No longest row is longer than a byte here, so that a TAPE has the most TOKENS. */
    private static void termsAsManyTokensAsBytes() {
        fault(0, "+".repeat(400));
        fault(0, "a1".repeat(200));
        fault(0, "a1".repeat(199) + "a");
        fault(6, "quick " + "*".repeat(394));
        fault(400, "quick 1 if not " + "y<3 or ".repeat(12) + "x=0" + " ".repeat(297) + "+");
        TowerFoot t = Run.bare().text("+".repeat(400)).then("law").law("quick 7").then("force", 0).play();
        DUE.due("a law behind so many TOKENS", t.kind(0, 0, 6), 7);
    }
}
