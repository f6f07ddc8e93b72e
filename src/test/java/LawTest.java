/** Promises 13 to 16: LAWS, where they are faulty, which is in FORCE, what is seen of a CELL. */
public final class LawTest {
    private static final Due DUE = new Due("LawTest");

    public static void main(String[] args) {
        promise13Law();
        promise13Room();
        promise13Again();
        promise14Fault();
        promise14Limits();
        promise15Force();
        promise16Kinds();
        promise16Sight();
        promise16Refusals();
        promise16Sums();
        promise16Tests();
        promise16Words();
        DUE.end();
    }

    private static void promise13Law() {
        TowerFoot t = new TowerFoot();
        Calls.feedText(t, "quick 7");
        DUE.due("law", t.law(), 0);
        DUE.due("tape", t.count(6), 0);
        DUE.due("fault", t.fault(), -1);
        Calls.feedText(t, "quick");
        DUE.refused(t, "law", -6);
        DUE.due("tape behind a fault", t.count(6), 0);
        DUE.due("fault", t.fault(), 5);
        DUE.refused(t, "law", -6);
        DUE.due("fault of nothing", t.fault(), 0);
        Calls.feedText(t, "    ");
        DUE.refused(t, "law", -6);
        DUE.due("fault of blanks", t.fault(), 4);
        Calls.feedText(t, "  quick8  ");
        DUE.due("law", t.law(), 1);
        DUE.due("status", t.status(), 0);
        DUE.due("laws", t.count(2), 2);
        DUE.due("not in force by itself", t.kind(0, 0, 6), 100);
    }

    private static void promise13Room() {
        TowerFoot t = new TowerFoot();
        for (int i = 0; i < 6; i++) {
            Calls.feedText(t, "quick " + i);
            DUE.due("law", t.law(), i);
        }
        Calls.feedText(t, "quick of");
        DUE.refused(t, "law", -5);
        DUE.due("tape", t.count(6), 0);
        DUE.due("fault not read", t.fault(), -1);
        DUE.refused(t, "law", -5);
        DUE.due("laws", t.count(2), 6);
        for (int i = 0; i < 6; i++) {
            DUE.due("force", t.force(i), i - 1);
            DUE.due("its quick", t.kind(0, 0, 6), i);
        }
    }

    /** Nothing of an earlier TEXT or LAW is left over. */
    private static void promise13Again() {
        TowerFoot t = new TowerFoot();
        t.image(0);
        for (int i = 0; i < 40; i++) {
            Calls.feedText(t, "quick " + i + "+1".repeat(30));
            DUE.due("law", t.law(), 0);
            t.force(0);
            DUE.due("its quick", t.kind(0, 0, 6), 30 + i);
            t.back(0);
        }
        Calls.feedText(t, "quick 1234567if9");
        t.end(7);
        DUE.due("law that was cut", t.law(), 0);
        t.force(0);
        DUE.due("its quick", t.kind(0, 0, 6), 1);
        Calls.feedText(t, "quick xyxyxy");
        t.end(7);
        DUE.due("law that was cut", t.law(), 1);
        Calls.feedText(t, "quick 9 if x=0 or y=0 if");
        t.end(14);
        DUE.due("law that was cut", t.law(), 2);
        t.force(2);
        DUE.due("its quick", t.kind(0, 0, 6), 9);
        DUE.due("where it does not hold", t.kind(1, 0, 6), 100);
    }

    private static int faultOf(String text) {
        TowerFoot t = new TowerFoot();
        Calls.feedText(t, text);
        int answer = t.law();
        int fault = t.fault();
        DUE.due("law \"" + text + "\"", answer, fault == -1 ? 0 : -6);
        return fault;
    }

    private static void promise14Fault() {
        Object[][] texts = {
            {"quick 0", -1}, {"quick 1000", -1}, {"quick 1001", 6}, {"quick 0001000", -1},
            {"quick 99999999999999999999", 6}, {"quick 00000000000000000005", -1},
            {"quick1if1<1", -1}, {"quick 1 if 1<1or1>1and1=1", -1}, {"quick x1", 7},
            {"quickx", 0}, {"quicka", 0}, {"quickz", 0}, {"quick {", 6}, {"quick `", 6},
            {"quick /", 6}, {"quick :", 6}, {"Quick 1", 0}, {"quick\t1", 5}, {"quick 1 ;", 9}, {"quick 1 ; ", 10},
            {"quick 1;;quick 1", 8}, {";quick 1", 0}, {"quick -1", 6}, {"quick 1 if", 10},
            {"quick 1 if 1", 12}, {"quick 1 if 1<", 13}, {"quick 1 if 1<2<3", 14},
            {"quick 1 if (1<2", 15}, {"quick 1 if (1)<2", 13}, {"quick 1 if [1]<2", -1},
            {"quick (1)", 6}, {"quick [1<2]", 8}, {"quick 1 if not 1<2", -1},
            {"quick 1 if not not not 1<2", -1}, {"quick 1 if not", 14}, {"quick 1 if 1 not <2", 13},
            {"quick 1 if 1<2 or", 17}, {"quick 1 if 1<2 and or 1<2", 19}, {"quick 1 if 1<2 if", 15},
            {"quick 1*/2", 8}, {"quick 1+", 8}, {"quick 1 2", 8}, {"quick []", 7},
            {"quick [1]]", 9}, {"quick kind+rise+high+trees+screen+x+y+way+off", -1},
            {"quick quick", 6}, {"quick if", 6}, {"quick 1 if 1<=2", 13}, {"quick ri se", 6},
            {"quick 1 000", 8}, {"quick 1" + (char) 233, 7}, {"quick 1" + (char) 0, 7},
            {"quick 1;quick 2 if x<3;quick y", -1}, {"quick 1 if (1<2)and(2<3)", -1},
            {"quick 1 if ((1<2)or not(2<3))", -1}, {"quick 1 if (1<2))", 16},
        };
        for (Object[] row : texts) {
            DUE.due("fault of \"" + row[0] + "\"", faultOf((String) row[0]), (Integer) row[1]);
        }
        DUE.due("fault ahead of any", new TowerFoot().fault(), -1);
        TowerFoot t = new TowerFoot();
        t.image(0);
        Calls.feedText(t, "quick");
        t.law();
        t.back(0);
        DUE.due("fault behind back", t.fault(), 5);
    }

    private static void promise14Limits() {
        String twelve = "quick 1" + ";quick 1".repeat(11);
        DUE.due("12 clauses", faultOf(twelve), -1);
        DUE.due("13 clauses", faultOf(twelve + "; quick 1"), twelve.length() + 2);
        DUE.due("13th is strange", faultOf(twelve + ";#"), twelve.length() + 1);
        DUE.due("13th is the end", faultOf(twelve + "; "), twelve.length() + 2);
        DUE.due("12 and no ;", faultOf(twelve + " 1"), twelve.length() + 1);
        String fifty = "quick 1" + "+x".repeat(24) + " if y" + "+1".repeat(23) + "=0";
        DUE.due("50 parts", faultOf(fifty), -1);
        DUE.due("51 parts", faultOf(fifty + "+ 1"), fifty.length() + 2);
        DUE.due("51st in another clause", faultOf(fifty + ";quick x"), fifty.length() + 7);
        DUE.due("brackets are no parts", faultOf(fifty + "+[1]"), fifty.length() + 2);
        DUE.due("a 51st that can't be", faultOf(fifty + "+]"), fifty.length() + 1);
        String open = "quick " + "[".repeat(8);
        DUE.due("8 brackets", faultOf(open + "1" + "]".repeat(8)), -1);
        DUE.due("9 brackets", faultOf(open + "[1]" + "]".repeat(8)), open.length());
        String mixed = "quick 1 if " + "(".repeat(5) + "[[[";
        DUE.due("8 of both kinds", faultOf(mixed + "1]]]=1" + ")".repeat(5)), -1);
        DUE.due("9 of both kinds", faultOf(mixed + "[1]]]]=1" + ")".repeat(5)), mixed.length());
        String round = "quick 1 if " + "(".repeat(8);
        DUE.due("8 round ones", faultOf(round + "1=1" + ")".repeat(8)), -1);
        DUE.due("9 round ones", faultOf(round + " (1=1" + ")".repeat(9)), round.length() + 1);
        DUE.due("one behind another", faultOf("quick " + "[1]+".repeat(20) + "1"), -1);
        DUE.due("not is no bracket", faultOf("quick 1 if " + "not ".repeat(90) + "1=1"), -1);
        String full = "quick 1" + " ".repeat(393);
        DUE.due("a full tape", faultOf(full), -1);
        DUE.due("a full tape's end", faultOf(" ".repeat(395) + "quick"), 400);
    }

    private static void promise15Force() {
        TowerFoot t = new TowerFoot();
        DUE.refused(t, "force", -2, 0);
        DUE.due("none", t.force(-1), -1);
        DUE.due("status", t.status(), 0);
        Calls.feedText(t, "quick 7");
        t.law();
        DUE.due("first", t.force(0), -1);
        DUE.due("status", t.status(), 0);
        DUE.due("in force", t.count(12), 0);
        DUE.refused(t, "force", -2, 1);
        DUE.refused(t, "force", -2, -2);
        DUE.refused(t, "force", -2, Integer.MAX_VALUE);
        DUE.refused(t, "force", -2, Integer.MIN_VALUE);
        DUE.due("still", t.kind(0, 0, 6), 7);
        DUE.due("none again", t.force(-1), 0);
        DUE.due("open", t.kind(0, 0, 6), 100);
        DUE.due("in force", t.count(12), -1);
    }

    /** Turns what stands round the square's middle, so that a WAY sees what WAY 0 saw. */
    private static int turned(int x, int y, int way) {
        int a = x;
        int b = y;
        for (int i = 0; i < way; i++) {
            int c = 9 - b;
            b = a;
            a = c;
        }
        return 10 * b + a;
    }

    private static void put(TowerFoot t, int cell, int high) {
        t.tower(cell % 10, cell / 10, 1, 1, high);
    }

    /** A CELL at 4, 5 with TOWERS as x, y, high round it: its kind, rise, high, off, QUICK. */
    private static void sight(String name, int[] towers, int... want) {
        for (int way = 0; way < 4; way++) {
            TowerFoot t = new TowerFoot();
            for (int i = 0; i < towers.length; i += 3) {
                put(t, turned(towers[i], towers[i + 1], way), towers[i + 2]);
            }
            int cell = turned(4, 5, way);
            int[] asked = {0, 1, 2, 5, 6};
            for (int i = 0; i < asked.length; i++) {
                DUE.due(name + " by way " + way + ", what " + asked[i],
                        t.kind(cell, way, asked[i]), want[i]);
            }
        }
    }

    private static void promise16Kinds() {
        sight("open", new int[0], 0, 0, 0, 0, 100);
        sight("far off", new int[] {4, 1, 9}, 0, 0, 0, 0, 100);
        sight("beside a lee", new int[] {3, 4, 9}, 0, 0, 0, 0, 100);
        sight("two down", new int[] {4, 7, 9}, 0, 0, 0, 0, 100);
        sight("passage", new int[] {3, 5, 9, 5, 5, 11}, 1, 11, 11, 0, 180);
        sight("passage, other higher", new int[] {3, 5, 12, 5, 5, 11}, 1, 12, 12, 0, 180);
        sight("passage, alike", new int[] {3, 5, 12, 5, 5, 12}, 1, 12, 12, 0, 180);
        sight("passage and front", new int[] {3, 5, 9, 5, 5, 11, 4, 6, 40}, 1, 11, 11, 0, 180);
        sight("passage in a lee", new int[] {3, 5, 9, 5, 5, 11, 4, 3, 4}, 1, 7, 11, 0, 180);
        sight("front", new int[] {4, 6, 30}, 2, 30, 30, 0, 160);
        sight("front and corner", new int[] {4, 6, 30, 3, 5, 40}, 2, 30, 30, 0, 160);
        sight("front in a lee", new int[] {4, 6, 30, 4, 4, 10, 4, 2, 12}, 2, 18, 30, 0, 136);
        sight("front in a higher lee", new int[] {4, 6, 3, 4, 2, 12}, 2, 0, 3, 0, 100);
        sight("front, lee too far", new int[] {4, 6, 3, 4, 1, 12}, 2, 3, 3, 0, 106);
        sight("corner left", new int[] {3, 5, 20}, 3, 20, 20, 0, 170);
        sight("corner right", new int[] {5, 5, 20}, 3, 20, 20, 0, 170);
        sight("corner in a lee", new int[] {5, 5, 20, 4, 4, 15}, 3, 5, 20, 0, 155);
        sight("no corner: more up left", new int[] {3, 5, 20, 3, 4, 2}, 0, 0, 0, 0, 100);
        sight("no corner: more up right", new int[] {5, 5, 20, 5, 4, 2}, 0, 0, 0, 0, 100);
        sight("corner: down from it", new int[] {5, 5, 20, 5, 6, 2}, 3, 20, 20, 0, 170);
        sight("no corner but a lee", new int[] {5, 5, 20, 5, 4, 2, 4, 3, 8}, 4, 0, 8, 2, 40);
        sight("lee at 1", new int[] {4, 4, 20}, 4, 0, 20, 1, 40);
        sight("lee at 2", new int[] {4, 3, 20}, 4, 0, 20, 2, 40);
        sight("lee at 3", new int[] {4, 2, 20}, 4, 0, 20, 3, 40);
        sight("low passage", new int[] {3, 5, 1, 5, 5, 1}, 1, 1, 1, 0, 180);
        sight("low front", new int[] {4, 6, 1}, 2, 1, 1, 0, 102);
        sight("low corner left", new int[] {3, 5, 1}, 3, 1, 1, 0, 151);
        sight("low corner right", new int[] {5, 5, 1}, 3, 1, 1, 0, 151);
        sight("low lee at 1", new int[] {4, 4, 1}, 4, 0, 1, 1, 40);
        sight("low lee at 2", new int[] {4, 3, 1, 4, 2, 9}, 4, 0, 1, 2, 40);
        sight("low lee at 3", new int[] {4, 2, 1}, 4, 0, 1, 3, 40);
        sight("lee of the nearest", new int[] {4, 2, 20, 4, 3, 7}, 4, 0, 7, 2, 40);
    }

    private static void promise16Sight() {
        for (int way = 0; way < 4; way++) {
            TowerFoot t = new TowerFoot();
            int[][] trees = {{4, 5, 1}, {4, 4, 2}, {4, 3, 4}, {4, 2, 8}, {4, 6, 9}, {3, 5, 9}};
            int[][] screens = {{4, 5, 9}, {4, 4, 2}, {4, 3, 5}, {4, 2, 7}, {4, 1, 9}, {4, 6, 9}};
            for (int[] p : trees) {
                t.put(turned(p[0], p[1], way), 0, p[2]);
            }
            for (int[] p : screens) {
                t.put(turned(p[0], p[1], way), 1, p[2]);
            }
            int cell = turned(4, 5, way);
            DUE.due("trees by way " + way, t.kind(cell, way, 3), 7);
            DUE.due("screen by way " + way, t.kind(cell, way, 4), 7);
            t.put(turned(4, 2, way), 1, 0);
            DUE.due("screen by way " + way, t.kind(cell, way, 4), 5);
            int edge = turned(4, 0, way);
            t.put(edge, 0, 9);
            t.put(edge, 1, 9);
            DUE.due("trees at the edge", t.kind(edge, way, 3), 9);
            DUE.due("screen at the edge", t.kind(edge, way, 4), 0);
        }
    }

    private static void promise16Refusals() {
        TowerFoot t = new TowerFoot();
        t.tower(5, 5, 1, 1, 1);
        DUE.none(t, "kind", Due.row(55, 0, 0), Due.row(-1, 0, 0), Due.row(100, 0, 0),
                Due.row(0, -1, 0), Due.row(0, 4, 0), Due.row(0, 0, -1), Due.row(0, 0, 7),
                Due.row(Integer.MAX_VALUE, Integer.MIN_VALUE, 0));
    }

    private static int quick(String text, int cell, int way) {
        TowerFoot t = new TowerFoot();
        t.tower(4, 4, 2, 2, 20);
        t.put(43, 0, 3);
        t.put(63, 1, 4);
        Calls.feedText(t, text);
        DUE.due("law \"" + text + "\"", t.law(), 0);
        t.force(0);
        return t.kind(cell, way, 6);
    }

    private static void quicks(Object[][] rows) {
        for (Object[] row : rows) {
            DUE.due("QUICK by \"" + row[0] + "\"", quick((String) row[0], 3, 0), (Integer) row[1]);
        }
    }

    private static void promise16Sums() {
        quicks(new Object[][] {
            {"quick 1+2*3", 7}, {"quick [1+2]*3", 9}, {"quick 10-4-3", 3}, {"quick 100/7/2", 7},
            {"quick 100/[7/2]", 33}, {"quick 7*10/4", 17}, {"quick 10/4*7", 14},
            {"quick 50+[0-7]/2", 47}, {"quick 50+7/[0-2]", 47}, {"quick 50-[0-7]/[0-2]", 47},
            {"quick 999", 999}, {"quick 1000", 999}, {"quick 0-5", 0}, {"quick 1000*1000*1000", 999},
            {"quick 0-1000*1000*1000", 0}, {"quick 1000*1000*1000+1", 100},
            {"quick 0-1000*1000*1000-1", 100}, {"quick 1000*1000*1000+1-1", 100},
            {"quick 1000*1000*1000*1000*0", 100}, {"quick 5/0", 100}, {"quick 5*[1/0]", 100},
            {"quick 5;quick 6;quick 7;quick 8;quick 9", 9},
            {"quick 5;quick 6;quick 7;quick 8 if x>9;quick 9 if x>9", 7},
            {"quick 7;quick 5/0", 7}, {"quick 7;quick 8", 8}, {"quick 7;quick 8;quick 9 if 1>2", 8},
            {"quick 0/5", 0}, {"quick [1000*1000*1000-1]*1/[1000*1000]", 999},
        });
    }

    private static void promise16Tests() {
        String[] so = {"1<2", "2>1", "2=2", "not 1>2", "not not 1<2", "1>2 or 1<2", "1<2 or 1/0=1",
            "1<2 and 2<3", "(1>2 or 1<2) and 1<2", "1<2 or 1<2 and 1>2", "not (1<2 and 1>2)",
            "not 1>2 and 1<2", "1>2 and 1/0=1 or 1<2", "1=1 or 1/0=1 and 1/0=2",
            "not (1>2 and 1/0=1)", "1>2 or 1>2 or 1<2 or 1/0=1", "1+1=4-2",
            "1<2 or 1/0=1 or 1/0=1", "1>2 and 1/0=1 and 1/0=1 or 1<2", "not (not 1<2)",
            "not not not 1>2", "not (1>2 or not 1<2)", "1<2 and (1<2 or 1/0=1) and 1<2"};
        String[] not = {"1>2", "1<1", "1>1", "1=2", "not 1<2", "1>2 or 2>3", "1<2 and 1>2",
            "1/0=1", "not 1/0=1", "1/0=1 or 1<2", "1>2 or 1/0=1", "1<2 and 1/0=1",
            "(1/0=1 or 1<2) or 1<2", "1<2 and (1>2 or 1/0=1)", "1>2 and 1/0=1",
            "1000*1000*1000+1>0", "1=1/0", "not (1>2 or 1/0=1)", "1/0=1 and 1>2",
            "not 1<2 or 1>2", "1>2 and 1<2 or 1>2", "not not not 1<2", "1<2 and 1<2 and 1>2",
            "1<2 and 1<2 and 1/0=1"};
        for (String test : so) {
            DUE.due("so: " + test, quick("quick 7;quick 8 if " + test, 3, 0), 8);
        }
        for (String test : not) {
            DUE.due("not so: " + test, quick("quick 7;quick 8 if " + test, 3, 0), 7);
        }
        DUE.due("so but broken", quick("quick 7;quick 1/0 if 1=1", 3, 0), 7);
    }

    private static void promise16Words() {
        String[] words = {"kind", "rise", "high", "trees", "screen", "off"};
        for (int cell = 0; cell < 100; cell++) {
            for (int way = 0; way < 4; way++) {
                if (cell == 44 || cell == 45 || cell == 54 || cell == 55 || cell % 3 != way % 3) {
                    continue;
                }
                String law = "quick x*100+y*10+way";
                DUE.due("x, y, way", quick(law, cell, way), cell % 10 * 100 + cell / 10 * 10 + way);
            }
        }
        int[][] want = {{63, 1, 0, 0, 0, 0, 0, 0}, {64, 0, 4, 0, 20, 0, 0, 1},
            {84, 0, 4, 0, 20, 0, 0, 3}, {73, 0, 0, 0, 0, 0, 4, 0}, {53, 0, 0, 0, 0, 3, 0, 0},
            {43, 0, 3, 20, 20, 3, 0, 0}, {34, 0, 2, 20, 20, 0, 0, 0}, {93, 0, 0, 0, 0, 0, 4, 0}};
        for (int[] w : want) {
            for (int i = 0; i < words.length; i++) {
                DUE.due(words[i] + " of " + w[0], quick("quick " + words[i], w[0], w[1]), w[2 + i]);
            }
        }
        TowerFoot t = new TowerFoot();
        Calls.feedText(t, "quick 5 if kind=2");
        t.law();
        t.force(0);
        t.tower(4, 4, 2, 2, 20);
        DUE.due("where no clause holds: corner", t.kind(43, 0, 6), 170);
        DUE.due("where no clause holds: lee", t.kind(64, 0, 6), 40);
        DUE.due("where it holds", t.kind(34, 0, 6), 5);
    }
}
