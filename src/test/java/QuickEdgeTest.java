/** The edges that Terms II and promise 16 name of KINDS, SUMS, TESTS and QUICK. */
public final class QuickEdgeTest {
    private static final Due DUE = new Due("QuickEdgeTest");
    private static final int[] DX = {0, 1, 0, -1};
    private static final int[] DY = {-1, 0, 1, 0};
    private static final String BILLION = "1000*1000*1000";

    public static void main(String[] args) {
        promise16Refusals();
        termsOneTowerAnywhere();
        termsTreesAnywhere();
        termsTwoTowers();
        termsThreeCellsUp();
        termsRiseAtLeast0();
        termsPassageTheHigher();
        termsWhichStands();
        termsEachWord();
        termsEachSight();
        termsQuickWithoutLaw();
        termsQuick0To999();
        termsSumBeyondABillion();
        termsDividedBy0();
        termsCutTowards0();
        termsBrokenTests();
        termsOnlyIfItCanMatter();
        termsLastThatHolds();
        DUE.end();
    }

    private static void promise16Refusals() {
        Edge some = new Edge(DUE, Run.some());
        some.of("KIND (what 0) .. QUICK (6)").rangeOrNone(2, 0, 6, "kind", 3, 0, 0);
        some.of("NONE (a TOWER, too)");
        for (int what = 0; what <= 6; what++) {
            some.none("kind", Due.row(44, 0, what), Due.row(81, 3, what));
        }
        some.of("KINDS 0 .. 4").rangeOrNone(0, 0, 4, "kinds", 0, 0);
    }

    /** How far UP (first) and to a side (second) a CELL lies from another one by a WAY. */
    private static int[] seenFrom(int cell, int other, int way) {
        int dx = other % 10 - cell % 10;
        int dy = other / 10 - cell / 10;
        return new int[] {dx * DX[way] + dy * DY[way], dx * DY[way] + dy * DX[way]};
    }

    /** One TOWER in each CELL, seen from each other one: what is beyond an edge is not across it. */
    private static void termsOneTowerAnywhere() {
        for (int tower = 0; tower < 100; tower++) {
            for (int way = 0; way < 4; way++) {
                TowerFoot t = new TowerFoot();
                t.tower(tower % 10, tower / 10, 1, 1, 6);
                int[] kinds = new int[5];
                for (int cell = 0; cell < 100; cell++) {
                    if (cell == tower) {
                        continue;
                    }
                    int[] p = seenFrom(cell, tower, way);
                    boolean lee = p[1] == 0 && p[0] >= 1 && p[0] <= 3;
                    int kind = p[1] == 0 && p[0] == -1 ? 2
                            : p[0] == 0 && Math.abs(p[1]) == 1 ? 3 : lee ? 4 : 0;
                    kinds[kind]++;
                    String name = tower + " from " + cell + " by " + way;
                    DUE.due("KIND of " + name, t.kind(cell, way, 0), kind);
                    DUE.due("high of " + name, t.kind(cell, way, 2), kind == 0 ? 0 : 6);
                    DUE.due("rise of " + name, t.kind(cell, way, 1), kind == 2 || kind == 3 ? 6 : 0);
                    DUE.due("off of " + name, t.kind(cell, way, 5), lee ? p[0] : 0);
                }
                for (int kind = 0; kind < 5; kind++) {
                    DUE.due("how many of KIND " + kind, t.kinds(kind, way), kinds[kind]);
                }
            }
        }
    }

    private static void termsTreesAnywhere() {
        for (int spot = 0; spot < 100; spot++) {
            for (int way = 0; way < 4; way++) {
                TowerFoot t = new TowerFoot();
                t.put(spot, 0, 5);
                t.put(spot, 1, 7);
                for (int cell = 0; cell < 100; cell++) {
                    int[] p = seenFrom(cell, spot, way);
                    boolean trees = p[1] == 0 && p[0] >= 0 && p[0] <= 2;
                    boolean screen = p[1] == 0 && p[0] >= 1 && p[0] <= 3;
                    String name = spot + " from " + cell + " by " + way;
                    DUE.due("trees of " + name, t.kind(cell, way, 3), trees ? 5 : 0);
                    DUE.due("screen of " + name, t.kind(cell, way, 4), screen ? 7 : 0);
                }
            }
        }
    }

    /** Any two TOWERS round a CELL, the one lower, as high or higher than the other. */
    private static void termsTwoTowers() {
        int[] cells = {55, 50, 5, 99, 0};
        for (int cell : cells) {
            for (int a = 0; a < 100; a++) {
                for (int b = 0; b < a; b++) {
                    if (a != cell && b != cell && near(cell, a) && near(cell, b)) {
                        twoTowers(cell, a, b, 7, 6);
                        twoTowers(cell, a, b, 7, 7);
                        twoTowers(cell, a, b, 7, 8);
                        twoTowers(cell, a, b, 1, 2);
                        twoTowers(cell, a, b, 2, 1);
                        twoTowers(cell, a, b, 1, 40);
                    }
                }
            }
        }
    }

    private static boolean near(int cell, int other) {
        int apart = Math.abs(cell % 10 - other % 10) + Math.abs(cell / 10 - other / 10);
        return apart <= 3;
    }

    private static void twoTowers(int cell, int a, int b, int high, int other) {
        TowerFoot t = new TowerFoot();
        t.tower(a % 10, a / 10, 1, 1, high);
        t.tower(b % 10, b / 10, 1, 1, other);
        Oracle.World due = new Oracle.World();
        due.towers.add(new Oracle.Tower(a % 10, a / 10, 1, 1, high));
        due.towers.add(new Oracle.Tower(b % 10, b / 10, 1, 1, other));
        for (int way = 0; way < 4; way++) {
            int[] sight = due.sight(cell, way);
            for (int what : new int[] {0, 1, 2, 5}) {
                DUE.due("what " + what + " of " + cell + " by " + way + ", TOWERS " + a + ", " + b,
                        t.kind(cell, way, what), sight[what]);
            }
        }
    }

    private static void termsThreeCellsUp() {
        TowerFoot t = new TowerFoot();
        t.tower(5, 2, 1, 1, 9);
        int[] kinds = {4, 4, 4, 0, 0};
        for (int k = 1; k <= 5; k++) {
            DUE.due("KIND " + k + " DOWN", t.kind(25 + 10 * k, 0, 0), kinds[k - 1]);
            DUE.due("off " + k + " DOWN", t.kind(25 + 10 * k, 0, 5), k <= 3 ? k : 0);
        }
        for (int k = 1; k <= 5; k++) {
            t = new TowerFoot();
            t.tower(5, 7, 1, 1, 20);
            t.tower(5, 6 - k, 1, 1, 12);
            DUE.due("rise of a FRONT with a TOWER " + k + " UP", t.kind(65, 0, 1), k <= 3 ? 8 : 20);
        }
    }

    private static void termsRiseAtLeast0() {
        int[][] rows = {{1, 1}, {10, 9}, {10, 10}, {10, 11}, {40, 1}, {1, 40}, {40, 40}};
        for (int[] r : rows) {
            int rise = Math.max(0, r[0] - r[1]);
            TowerFoot t = new TowerFoot();
            t.tower(5, 7, 1, 1, r[0]);
            t.tower(5, 4, 1, 1, r[1]);
            DUE.due("rise of a FRONT", t.kind(65, 0, 1), rise);
            DUE.due("QUICK of a FRONT", t.kind(65, 0, 6), 100 + 2 * rise);
            t = new TowerFoot();
            t.tower(4, 7, 1, 1, r[0]);
            t.tower(5, 4, 1, 1, r[1]);
            DUE.due("rise of a CORNER", t.kind(75, 0, 1), rise);
            DUE.due("QUICK of a CORNER", t.kind(75, 0, 6), 150 + rise);
            t = new TowerFoot();
            t.tower(5, 5, 1, 1, r[0]);
            t.tower(5, 4, 1, 1, r[1]);
            DUE.due("rise of a LEE", t.kind(65, 0, 1), 0);
            DUE.due("high of a LEE", t.kind(65, 0, 2), r[0]);
            t = new TowerFoot();
            t.tower(4, 7, 1, 1, r[0]);
            t.tower(6, 7, 1, 1, 1);
            t.tower(5, 4, 1, 1, r[1]);
            DUE.due("rise of a PASSAGE", t.kind(75, 0, 1), rise);
            DUE.due("QUICK of a PASSAGE", t.kind(75, 0, 6), 180);
        }
        TowerFoot t = new TowerFoot();
        t.tower(5, 7, 1, 1, 30);
        t.tower(5, 5, 1, 1, 10);
        t.tower(5, 4, 1, 1, 25);
        t.tower(5, 3, 1, 1, 20);
        DUE.due("the highest of three", t.kind(65, 0, 1), 5);
        DUE.due("rise without", t.kind(0, 0, 1), 0);
        DUE.due("high without", t.kind(0, 0, 2), 0);
    }

    private static void termsPassageTheHigher() {
        for (int left = 1; left <= 40; left += 13) {
            for (int right = 1; right <= 40; right += 13) {
                TowerFoot t = new TowerFoot();
                t.tower(4, 5, 1, 1, left);
                t.tower(6, 5, 1, 1, right);
                for (int way = 0; way <= 2; way += 2) {
                    DUE.due("PASSAGE", t.kind(55, way, 0), 1);
                    DUE.due("the higher one's", t.kind(55, way, 2), Math.max(left, right));
                }
                DUE.due("by the other WAYS a FRONT, east", t.kind(55, 1, 2), left);
                DUE.due("by the other WAYS a FRONT, west", t.kind(55, 3, 2), right);
            }
        }
        TowerFoot t = new TowerFoot();
        t.tower(1, 5, 1, 1, 9);
        DUE.due("at the edge one side alone: CORNER", t.kind(50, 0, 0), 3);
        DUE.due("at the edge one side alone: CORNER", t.kind(50, 2, 0), 3);
    }

    /** "the first of" KINDS where several fit. */
    private static void termsWhichStands() {
        TowerFoot t = new TowerFoot();
        t.tower(4, 5, 1, 1, 5);
        t.tower(6, 5, 1, 1, 6);
        t.tower(5, 6, 1, 1, 7);
        t.tower(5, 4, 1, 1, 8);
        for (int way = 0; way < 4; way++) {
            DUE.due("PASSAGE ahead of all", t.kind(55, way, 0), 1);
        }
        t = new TowerFoot();
        t.tower(4, 5, 1, 1, 5);
        t.tower(5, 6, 1, 1, 7);
        t.tower(5, 4, 1, 1, 8);
        DUE.due("FRONT ahead of CORNER and LEE", t.kind(55, 0, 0), 2);
        t = new TowerFoot();
        t.tower(4, 5, 1, 1, 5);
        t.tower(5, 4, 1, 1, 8);
        DUE.due("CORNER ahead of LEE", t.kind(55, 0, 0), 3);
        t.tower(4, 4, 1, 1, 8);
        DUE.due("no CORNER with a TOWER next UP of it: LEE", t.kind(55, 0, 0), 4);
        t = new TowerFoot();
        t.tower(4, 4, 1, 2, 5);
        DUE.due("no CORNER beside its second CELL", t.kind(55, 0, 0), 0);
        DUE.due("CORNER beside its first CELL", t.kind(45, 0, 0), 3);
        DUE.due("CORNER by the other WAY", t.kind(55, 2, 0), 3);
    }

    /** Each word of a PART is what kind() tells by its number, and x, y, way those of the CELL. */
    private static void termsEachWord() {
        String[] words = {"kind", "rise", "high", "trees", "screen", "off", "x", "y", "way"};
        for (int word = 0; word < words.length; word++) {
            for (int way = 0; way < 4; way++) {
                TowerFoot t = Run.some().law("quick " + words[word]).then("force", 2)
                        .play();
                for (int cell = 0; cell < 100; cell++) {
                    if (t.at(cell) == -1) {
                        int want = word < 6 ? t.kind(cell, way, word)
                                : word == 6 ? cell % 10 : word == 7 ? cell / 10 : way;
                        DUE.due(words[word] + " of " + cell + " by " + way, t.kind(cell, way, 6),
                                want);
                    }
                }
            }
        }
    }

    /** On one object a CELL's sight changes in one word alone: the LAW tells that at once. */
    private static void termsEachSight() {
        TowerFoot t = Run.bare().law("quick kind*100+rise*2").law("quick high*10+off")
                .law("quick trees*30+screen").then("force", 0).play();
        DUE.due("OPEN", t.kind(75, 0, 6), 0);
        t.tower(4, 7, 1, 1, 40);
        DUE.due("CORNER", t.kind(75, 0, 6), 380);
        t.tower(6, 7, 1, 1, 40);
        DUE.due("PASSAGE as high", t.kind(75, 0, 6), 180);
        t.tower(5, 4, 1, 1, 32);
        DUE.due("PASSAGE with less rise", t.kind(75, 0, 6), 116);
        t.high(2, 8);
        DUE.due("PASSAGE with more rise", t.kind(75, 0, 6), 164);
        t.force(1);
        DUE.due("another LAW", t.kind(75, 0, 6), 400);
        DUE.due("a LEE", t.kind(65, 0, 6), 82);
        t.tower(5, 5, 1, 1, 8);
        DUE.due("a nearer LEE", t.kind(65, 0, 6), 81);
        t.high(3, 40);
        DUE.due("a higher LEE", t.kind(65, 0, 6), 401);
        t.high(0, 8);
        t.high(1, 8);
        DUE.due("a lower PASSAGE", t.kind(75, 0, 6), 80);
        t.force(2);
        for (int value = 9; value >= 0; value--) {
            t.put(0, 0, value);
            t.put(10, 0, 9);
            t.put(20, 0, value);
            DUE.due("TREES", t.kind(20, 0, 6), 30 * (9 + 2 * value));
            t.put(9, 1, value);
            DUE.due("SCREEN", t.kind(39, 0, 6), value);
        }
    }

    private static void termsQuickWithoutLaw() {
        for (int high = 1; high <= 40; high++) {
            TowerFoot t = new TowerFoot();
            t.tower(5, 5, 1, 1, high);
            DUE.due("OPEN", t.kind(0, 0, 6), 100);
            DUE.due("FRONT", t.kind(45, 0, 6), 100 + 2 * high);
            DUE.due("CORNER", t.kind(54, 0, 6), 150 + high);
            DUE.due("LEE", t.kind(65, 0, 6), 40);
            DUE.due("LEE", t.kind(85, 0, 6), 40);
            DUE.due("beyond", t.kind(95, 0, 6), 100);
        }
    }

    private static int quick(String law) {
        TowerFoot t = Run.bare().law(law).then("force", 0).play();
        DUE.due("LAWS with \"" + law + "\"", t.count(2), 1);
        return t.kind(0, 0, 6);
    }

    private static void quick(int want, String law) {
        DUE.due("QUICK by \"" + law + "\"", quick(law), want);
    }

    /** A SUM that is BROKEN does not hold, so that the CLAUSE ahead of it tells 7. */
    private static void broken(String sum) {
        quick(7, "quick 7;quick " + sum);
        quick(7, "quick 7;quick 8 if " + sum + "=0 or 1=1");
        quick(7, "quick 7;quick 8 if not 0=" + sum);
    }

    private static void whole(int want, String sum) {
        quick(want, "quick 7;quick " + sum);
        quick(8, "quick 7;quick 8 if " + sum + "=0 or 1=1");
    }

    private static void termsQuick0To999() {
        quick(0, "quick 0");
        quick(1, "quick 1");
        quick(998, "quick 998");
        quick(999, "quick 999");
        quick(999, "quick 1000");
        quick(999, "quick 1000*1000");
        quick(999, "quick " + BILLION);
        quick(0, "quick 1-1");
        quick(0, "quick 0-1");
        quick(0, "quick 0-" + BILLION);
    }

    private static void termsSumBeyondABillion() {
        whole(999, BILLION);
        whole(999, BILLION + "-1");
        broken(BILLION + "+1");
        broken("1+" + BILLION);
        whole(0, "0-" + BILLION);
        whole(0, "0-[" + BILLION + "-1]");
        broken("0-" + BILLION + "-1");
        broken("0-1-" + BILLION);
        whole(999, "1000*1000*500*2");
        broken("1000*1000*500*2+1");
        broken("1000*1000*999*2");
        broken("[" + BILLION + "-1]*2");
        whole(999, "[0-1000]*1000*[0-1000]");
        broken("[0-1000]*1000*[0-1000]+1");
        whole(0, "[0-1000]*1000*1000");
        broken("[0-1000]*1000*1000-1");
        // what would be within again, if only the end were looked at
        broken(BILLION + "+1-1");
        broken(BILLION + "*2/2");
        broken("0*[" + BILLION + "+1]");
        broken("1000*1000*1000*1000/1000/1000/1000/1000");
        broken("0-" + BILLION + "-1+1");
        // what would be within again, if it went round at 32 or 64 bits
        broken(BILLION + "*1000");
        broken(BILLION + "+" + BILLION + "+" + BILLION + "+" + BILLION + "+" + BILLION);
        broken("1000*1000*1000*1000*1000*1000*1000*1000");
        broken("[" + BILLION + "]*[" + BILLION + "]");
        whole(1, BILLION + "/1000/1000/1000");
        whole(1, "[" + BILLION + "]/[" + BILLION + "]");
        whole(2, BILLION + "-[" + BILLION + "-2]");
    }

    private static void termsDividedBy0() {
        broken("1/0");
        broken("0/0");
        broken("5*[3/0]");
        broken("0*[3/0]");
        broken("1/[2-2]");
        broken("1/x");
        broken("8/[1/2]");
        whole(0, "0/5");
        whole(9, "9/1");
        whole(0, "1/[0-1]");
    }

    private static void termsCutTowards0() {
        int[][] rows = {{7, 2, 3}, {6, 2, 3}, {5, 6, 0}, {6, 6, 1}, {1, 1000, 0}, {999, 1000, 0},
            {1000, 999, 1}};
        for (int[] r : rows) {
            whole(500 + r[2], "500+" + r[0] + "/" + r[1]);
            whole(500 - r[2], "500+[0-" + r[0] + "]/" + r[1]);
            whole(500 - r[2], "500+" + r[0] + "/[0-" + r[1] + "]");
            whole(500 + r[2], "500+[0-" + r[0] + "]/[0-" + r[1] + "]");
        }
    }

    private static void test(boolean so, String test) {
        quick(so ? 8 : 7, "quick 7;quick 8 if " + test);
    }

    private static void termsBrokenTests() {
        for (String sign : new String[] {"<", ">", "="}) {
            test(false, "1/0" + sign + "1");
            test(false, "1" + sign + "1/0");
            test(false, "not 1/0" + sign + "1");
            test(false, "not not 1/0" + sign + "1");
            test(false, "(1/0" + sign + "1)");
            test(false, "not (1/0" + sign + "1)");
            test(false, BILLION + "+1" + sign + "1");
            test(false, "not " + BILLION + "+1" + sign + "1");
        }
        test(true, "not (not 1=1)");
        test(false, "not (not 1=2)");
        test(true, "not (not 1=1 or 1=2)");
        test(true, "not not (not 1=2)");
        test(true, BILLION + ">1000*1000*999");
        test(true, "0-" + BILLION + "<0-1000*1000*999");
        test(false, "1<1");
        test(true, "1<2");
        test(false, "2<1");
        test(false, "1>1");
        test(true, "2>1");
        test(false, "1>2");
        test(true, "1=1");
        test(false, "1=2");
        test(false, "2=1");
        quick(7, "quick 7;quick 1/0 if 1=1");
        quick(7, "quick 7;quick 1/0 if 1=2");
        quick(7, "quick 7;quick 1/0 if 1/0=1");
        quick(7, "quick 7;quick 8 if 1/0=1;quick 9 if 1=2");
    }

    private static void termsOnlyIfItCanMatter() {
        String yes = "1=1";
        String no = "1=2";
        String bad = "1/0=1";
        test(true, yes + " or " + bad);
        test(false, no + " or " + bad);
        test(false, bad + " or " + yes);
        test(false, bad + " or " + no);
        test(false, no + " and " + bad);
        test(false, yes + " and " + bad);
        test(false, bad + " and " + no);
        test(false, bad + " and " + yes);
        test(true, "not (" + no + " and " + bad + ")");
        test(false, "not (" + yes + " and " + bad + ")");
        test(false, "not (" + no + " or " + bad + ")");
        test(false, "not (" + yes + " or " + bad + ")");
        test(true, no + " and " + bad + " or " + yes);
        test(false, yes + " and " + bad + " or " + yes);
        test(true, yes + " or " + bad + " and " + bad);
        test(true, yes + " or " + bad + " or " + bad);
        test(false, no + " or " + bad + " or " + yes);
        test(true, no + " or " + yes + " or " + bad);
        test(true, "not (" + no + " and " + bad + " and " + bad + ")");
        test(true, "not (" + yes + " and " + no + " and " + bad + ")");
        test(false, "(" + bad + " and " + no + ") or " + yes);
        test(true, "(" + no + " and " + bad + ") or " + yes);
        test(false, "(" + yes + " or " + bad + ") and " + bad);
        test(true, "(" + yes + " or " + bad + ") and " + yes);
        test(false, "(" + yes + " or " + bad + ") and " + no);
    }

    private static void termsLastThatHolds() {
        StringBuilder all = new StringBuilder("quick 20");
        for (int n = 1; n < 12; n++) {
            all.append(";quick ").append(20 + n);
            quick(20 + n, all.toString());
        }
        for (int n = 0; n < 12; n++) {
            StringBuilder one = new StringBuilder();
            for (int i = 0; i < 12; i++) {
                one.append(i == 0 ? "" : ";").append("quick ").append(20 + i)
                        .append(i == n ? " if 1=1" : " if 1=2");
            }
            quick(20 + n, one.toString());
        }
        StringBuilder longer = new StringBuilder("quick 7+0+0+0+0+0+0 if x=0");
        TowerFoot u = Run.bare().law(all.toString()).law("quick 6").play();
        for (int n = 2; n <= 6; n++) {
            longer.append(";quick 7+0+0+0+0+0 if x=1");
            Run behind = Run.bare().law(all.toString()).law(longer.toString()).then("force", 1);
            DUE.due("nothing of a LAW with more CLAUSES", behind.play().kind(0, 0, 6), 7);
            DUE.due("nothing of a LAW with more CLAUSES", behind.play().kind(2, 0, 6), 100);
        }
        u.force(1);
        DUE.due("nothing of a LAW with more CLAUSES", u.kind(0, 0, 6), 6);
        quick(100, "quick 5 if 1=2");
        quick(100, "quick 5/0");
        quick(5, "quick 5;quick 6 if 1=2;quick 7/0");
        quick(6, "quick 5;quick 6;quick 7/0 if 1=1");
        TowerFoot t = Run.bare().law("quick 5 if x>9").then("force", 0)
                .then("tower", 5, 5, 1, 1, 20).play();
        DUE.due("without it: FRONT", t.kind(45, 0, 6), 140);
        DUE.due("without it: CORNER", t.kind(54, 0, 6), 170);
        DUE.due("without it: LEE", t.kind(65, 0, 6), 40);
        DUE.due("without it: OPEN", t.kind(0, 0, 6), 100);
        t.tower(7, 5, 1, 1, 20);
        DUE.due("without it: PASSAGE", t.kind(56, 0, 6), 180);
    }
}
