/** The edges that Terms I and promises 1 to 8 name: CELLS, TOWERS, what is put, LINES, HOURS. */
public final class SquareEdgeTest {
    private static final Due DUE = new Due("SquareEdgeTest");
    private static final int MIN = Integer.MIN_VALUE;
    private static final int MAX = Integer.MAX_VALUE;

    public static void main(String[] args) {
        Edge some = new Edge(DUE, Run.some());
        promise1OpenGround();
        promise1NoWind();
        termsCells(some);
        termsCellIsTenYAndX();
        termsTowersSixAtMost();
        termsTowersNumbers(some);
        termsWideAndDeep(some);
        termsHigh(some);
        termsNoneHasAnothersCell();
        termsAllOtherCellsAreGround();
        termsTreesScreenUse(some);
        termsBuiltOnLosesAllThree();
        termsLines(some);
        termsWays(some);
        termsYear(some);
        promise2OutOfTheSquare(some);
        promise2InTheWay(some);
        promise2NoRoom();
        promise3High(some);
        promise4At(some);
        promise5PutOnATower(some);
        promise6OfATower(some);
        DUE.end();
    }

    private static void promise1OpenGround() {
        for (int cell = 0; cell < 100; cell++) {
            TowerFoot t = new TowerFoot();
            DUE.due("new: no tower in " + cell, t.at(cell), -1);
            for (int what = 0; what < 3; what++) {
                DUE.due("new: nothing in " + cell, t.of(cell, what), 0);
            }
            for (int way = 0; way < 4; way++) {
                for (int what = 0; what < 6; what++) {
                    DUE.due("new: nothing seen of " + cell, t.kind(cell, way, what), 0);
                }
                DUE.due("new: QUICK of " + cell, t.kind(cell, way, 6), 100);
            }
        }
        TowerFoot t = new TowerFoot();
        for (int way = 0; way < 4; way++) {
            for (int kind = 0; kind < 5; kind++) {
                DUE.due("new: kinds", t.kinds(kind, way), kind == 0 ? 100 : 0);
            }
        }
        DUE.due("new: every CELL is ground", t.count(1), 100);
        DUE.due("new: seats anywhere", t.seat(1, 99), 99);
        DUE.due("new: a tower anywhere", t.site(1, 1, 1, 2), 100);
    }

    private static void promise1NoWind() {
        TowerFoot t = new TowerFoot();
        DUE.due("new: no HOURS", t.count(5), 0);
        for (int cell = 0; cell < 100; cell += 11) {
            DUE.due("new: no HOURS ABOVE", t.above(cell, 0), 0);
            DUE.due("new: not OVER", t.over(cell), 0);
        }
        Edge bare = new Edge(DUE, Run.bare()).of("no wind");
        bare.refused(-3, "day", 0);
        bare.none("drawn", Due.row(0, 0), Due.row(23, 1));
        bare.asked(0, "torn");
        bare.asked(-1, "fault");
        bare.asked(-1, "count", 12);
        bare.asked(0, "over", -1);
        bare.asked(0, "bad", -1);
        bare.none("bad", Due.row(0));
        bare.refused(-2, "force", 0);
        bare.refused(-2, "drop", 0);
        bare.refused(-2, "high", 0, 1);
        bare.refused(-2, "back", 0);
        bare.refused(-2, "back", 1);
        bare.refused(-6, "row");
        bare.refusedBut(Run.bare(), -6, new String[] {"fault["}, "law");
    }

    private static void termsCells(Edge some) {
        some.of("CELLS 0 .. 99");
        some.range(-1, 0, 0, 99, "put", 0, 0, 1);
        some.range(-1, 0, 0, 99, "place", 0);
        some.range(-1, 1, 0, 99, "work", 0, 0, 1, 1);
        some.range(-1, 1, 0, 99, "work", 1, 0, 1, 1);
        some.range(-1, 1, 0, 99, "work", 3, 0, 50, 1);
        some.range(-1, 2, 0, 99, "work", 3, 50, 0, 1);
        some.rangeOrNone(0, 0, 99, "of", 0, 0);
        some.rangeOrNone(0, 0, 99, "kind", 0, 0, 0);
        some.rangeOrNone(0, 0, 99, "above", 0, 3);
        some.rangeOrNone(1, 0, 99, "odds", 0, 0, 0, 5, 0);
        some.none("at", Due.row(-1), Due.row(0), Due.row(99), Due.row(100), Due.row(MIN),
                Due.row(MAX));
        some.none("over", Due.row(-2), Due.row(100), Due.row(MIN), Due.row(MAX));
        some.none("salt", Due.row(-2, 0, 3), Due.row(100, 0, 3), Due.row(MIN, 0, 3),
                Due.row(MAX, 0, 3));
        some.none("curve", Due.row(-1, 0, 3, 1), Due.row(-10, 0, 3, 1), Due.row(100, 2, 3, 1),
                Due.row(MIN, 0, 3, 1), Due.row(MAX, 2, 3, 1));
        for (int cell : new int[] {0, 1, 98, 99}) {
            some.asked(0, "over", cell);
            DUE.due("a SALT's CELL", Run.some().play().salt(cell, 0, 3) > 0 ? 1 : 0, 1);
            DUE.due("a curve's CELL",
                    Run.some().play().curve(cell, cell < 50 ? 0 : 2, 3, 1) > 0 ? 1 : 0, 1);
        }
    }

    private static void termsCellIsTenYAndX() {
        int[][] corners = {{0, 0, 0}, {9, 0, 9}, {0, 9, 90}, {9, 9, 99}, {3, 7, 73}, {7, 3, 37}};
        for (int[] c : corners) {
            TowerFoot t = new TowerFoot();
            t.tower(c[0], c[1], 1, 1, 8);
            for (int cell = 0; cell < 100; cell++) {
                DUE.due("x " + c[0] + ", y " + c[1], t.at(cell), cell == c[2] ? 0 : -1);
            }
            t = new TowerFoot();
            t.place(c[2]);
            DUE.due("the same CELL", t.tower(c[0], c[1], 1, 1, 8), -3);
        }
    }

    private static void termsTowersSixAtMost() {
        Run run = Run.bare();
        for (int i = 0; i < 6; i++) {
            new Edge(DUE, run).of("TOWERS 0 .. 5").taken(i, "tower", i, i, 1, 1, 1 + i);
            run = run.then("tower", i, i, 1, 1, 1 + i);
            DUE.due("how many", run.play().count(0), i + 1);
        }
        Edge six = new Edge(DUE, run).of("6 at most");
        six.refused(-5, "tower", 9, 0, 1, 1, 1);
        six.none("ahead", Due.row(9, 0, 1, 1, 1));
        six.asked(0, "site", 1, 1, 1, 2);
        six.none("site", Due.row(1, 1, 1, 0), Due.row(1, 1, 1, 1));
        six.range(-2, 0, 0, 5, "high", 0, 7);
        six.range(-2, 1, 0, 5, "work", 2, 0, 1, 1);
    }

    private static void termsTowersNumbers(Edge some) {
        some.of("there is no such TOWER");
        some.range(-2, 0, 0, 2, "high", 0, 7);
        some.range(-2, 1, 0, 2, "work", 2, 0, 1, 1);
        some.rangeOrNone(0, 0, 2, "odds", 0, 3, 0, 5, 0);
        for (int tower : new int[] {MIN, -2, -1, 3, 4, 5, 6, 7, MAX}) {
            some.asked(-1000000000, "does", tower);
            some.asked(-1000000000000L, "share", tower);
        }
        TowerFoot t = Run.some().play();
        for (int tower = 0; tower < 3; tower++) {
            DUE.due("there is TOWER " + tower, t.does(tower) > -1000000000 ? 1 : 0, 1);
            DUE.due("there is TOWER " + tower, t.share(tower) > -1000000000000L ? 1 : 0, 1);
        }
    }

    private static void termsWideAndDeep(Edge some) {
        some.of("so WIDE and so DEEP (1 .. 5 each)");
        some.range(-1, 2, 1, 5, "tower", 1, 1, 1, 1, 5);
        some.range(-1, 3, 1, 5, "tower", 8, 1, 1, 1, 5);
        some.rangeOrNone(2, 1, 5, "ahead", 1, 1, 1, 1, 5);
        some.rangeOrNone(3, 1, 5, "ahead", 8, 1, 1, 1, 5);
        some.rangeOrNone(0, 1, 5, "site", 1, 1, 5, 0);
        some.rangeOrNone(1, 1, 5, "site", 1, 1, 5, 0);
        for (int wide = 1; wide <= 5; wide++) {
            for (int deep = 1; deep <= 5; deep++) {
                TowerFoot t = new TowerFoot();
                DUE.due("tower", t.tower(3, 2, wide, deep, 9), 0);
                for (int cell = 0; cell < 100; cell++) {
                    int x = cell % 10;
                    int y = cell / 10;
                    boolean on = x >= 3 && x < 3 + wide && y >= 2 && y < 2 + deep;
                    DUE.due(wide + " wide, " + deep + " deep: " + cell, t.at(cell), on ? 0 : -1);
                }
                DUE.due("ground", t.count(1), 100 - wide * deep);
            }
        }
    }

    private static void termsHigh(Edge some) {
        some.of("HIGH 1 .. 40");
        some.range(-1, 4, 1, 40, "tower", 1, 1, 1, 1, 1);
        some.range(-1, 1, 1, 40, "high", 2, 1);
        some.rangeOrNone(4, 1, 40, "ahead", 1, 1, 1, 1, 1);
        some.rangeOrNone(2, 1, 40, "site", 1, 1, 1, 0);
        for (int high = 1; high <= 40; high++) {
            TowerFoot t = new TowerFoot();
            t.tower(5, 5, 1, 1, high);
            DUE.due("so HIGH", t.kind(45, 0, 2), high);
            DUE.due("so HIGH", t.high(0, 41 - high), high);
            DUE.due("so HIGH then", t.kind(45, 0, 2), 41 - high);
            DUE.due("so HIGH then", t.high(0, 1), 41 - high);
        }
    }

    private static void termsNoneHasAnothersCell() {
        Edge one = new Edge(DUE, Run.bare().then("tower", 4, 4, 2, 2, 9));
        one.of("none has a CELL of another one");
        int[][] touching = {{2, 4}, {6, 4}, {4, 2}, {4, 6}, {2, 2}, {6, 6}, {2, 6}, {6, 2}};
        for (int[] p : touching) {
            one.taken(1, "tower", p[0], p[1], 2, 2, 3);
        }
        int[][] over = {{3, 3}, {5, 5}, {3, 5}, {5, 3}, {4, 4}, {3, 4}, {5, 4}, {4, 3}, {4, 5}};
        for (int[] p : over) {
            one.refused(-3, "tower", p[0], p[1], 2, 2, 3);
            one.none("ahead", Due.row(p[0], p[1], 2, 2, 3));
        }
        one.refused(-3, "tower", 2, 2, 5, 5, 3);
        one.refused(-3, "tower", 0, 5, 5, 1, 3);
        one.taken(1, "tower", 0, 6, 5, 1, 3);
        one.refused(-3, "tower", 5, 1, 1, 5, 3);
        one.taken(1, "tower", 6, 1, 1, 5, 3);
    }

    private static void termsAllOtherCellsAreGround() {
        TowerFoot t = new TowerFoot();
        int ground = 100;
        int[][] towers = {{0, 0, 5, 5}, {5, 5, 5, 5}, {0, 5, 5, 5}, {5, 0, 5, 4}, {5, 4, 4, 1}};
        for (int[] p : towers) {
            t.tower(p[0], p[1], p[2], p[3], 3);
            ground -= p[2] * p[3];
            DUE.due("CELLS of ground", t.count(1), ground);
        }
        DUE.due("the last CELL of ground", t.of(49, 0), 0);
        DUE.due("it is a seat's", t.seat(1, 0), 49);
        DUE.due("and the only one", t.seat(1, 1), -1);
        DUE.due("one more tower there", t.site(1, 1, 1, 0), 49);
        DUE.due("and nowhere else", t.site(1, 1, 1, 2), 1);
        DUE.due("a passage by the north", t.kind(49, 1, 0), 1);
        t.tower(9, 4, 1, 1, 1);
        DUE.due("no ground", t.count(1), 0);
        DUE.due("no seat", t.seat(1, 0), -1);
        DUE.due("no SALT", t.salt(-1, 0, 0), 0);
        DUE.due("no KINDS", t.kinds(0, 0), 0);
        DUE.due("not OVER", t.over(-1), 0);
        DUE.due("what a tower does there", t.does(0), 0);
    }

    private static void termsTreesScreenUse(Edge some) {
        some.of("TREES 0 .. 9").range(-1, 2, 0, 9, "put", 50, 0, 0);
        some.of("a SCREEN 0 .. 9").range(-1, 2, 0, 9, "put", 50, 1, 0);
        some.of("USE: 0 none .. 3 a door").range(-1, 2, 0, 3, "put", 50, 2, 0);
        some.of("what 0, 1, 2").range(-1, 1, 0, 2, "put", 50, 0, 0);
        some.rangeOrNone(1, 0, 2, "of", 50, 0);
        some.of("what it was");
        some.taken(4, "put", 33, 0, 5);
        some.taken(5, "put", 24, 1, 0);
        some.taken(3, "put", 43, 2, 1);
        some.taken(0, "put", 50, 2, 3);
        TowerFoot t = new TowerFoot();
        for (int what = 0; what < 3; what++) {
            int most = what == 2 ? 3 : 9;
            int was = 0;
            for (int value = most; value >= 0; value--) {
                DUE.due("what it was", t.put(50, what, value), was);
                DUE.due("what it is", t.of(50, what), value);
                was = value;
            }
        }
        t.put(50, 0, 7);
        t.put(50, 1, 8);
        t.put(50, 2, 3);
        DUE.due("TREES apart", t.of(50, 0), 7);
        DUE.due("SCREEN apart", t.of(50, 1), 8);
        DUE.due("USE apart", t.of(50, 2), 3);
        for (int cell = 0; cell < 100; cell++) {
            DUE.due("of that CELL alone", t.of(cell, 0), cell == 50 ? 7 : 0);
        }
    }

    /** Taken away again, the TOWER leaves open ground without any of the three. */
    private static void termsBuiltOnLosesAllThree() {
        Run run = Run.bare().law("quick 300 if trees>0;quick 300 if screen>0").then("force", 0)
                .then("put", 65, 2, 1).then("line", 1, 0, 6).then("hours", 0, 5, 100);
        Run trees = run.then("put", 55, 0, 1);
        Run screen = run.then("put", 55, 1, 1);
        Run use = run.then("put", 65, 2, 0).then("put", 55, 2, 1).then("line", 1, 0, 4);
        for (Run with : new Run[] {trees, screen, use}) {
            TowerFoot t = with.play();
            DUE.due("what stands there is seen", t.over(-1), 100);
            t.tower(5, 5, 1, 1, 9);
            DUE.due("built on it is gone", t.over(-1), 0);
            DUE.due("without the TOWER, too", t.does(0), 0);
            DUE.due("and in each order", t.share(0), 0);
            for (int what = 0; what < 3; what++) {
                DUE.due("none is there", t.of(55, what), -1);
            }
            t = with.play();
            DUE.due("one more TOWER there, ahead", t.ahead(5, 5, 1, 1, 9), 0);
            DUE.due("which is not built", t.over(-1), 100);
        }
        TowerFoot t = run.then("put", 54, 0, 1).then("put", 54, 1, 1).play();
        t.tower(5, 5, 1, 1, 9);
        DUE.due("a CELL beside keeps its TREES", t.of(54, 0), 1);
        DUE.due("a CELL beside keeps its SCREEN", t.of(54, 1), 1);
        DUE.due("a CELL beside keeps its USE", t.of(65, 2), 1);
    }

    private static void termsLines(Edge some) {
        some.of("LINES of USES 1 .. 3").range(-1, 0, 1, 3, "line", 1, 0, 5);
        some.of("PACE (what 0), HOURS (1)").range(-1, 1, 0, 1, "line", 1, 0, 5);
        some.of("a PACE 0 .. 99").range(-1, 2, 0, 99, "line", 1, 0, 5);
        some.of("HOURS 0 .. 9999").range(-1, 2, 0, 9999, "line", 1, 1, 5);
        some.of("what it was");
        some.taken(5, "line", 1, 0, 99);
        some.taken(11, "line", 1, 1, 9999);
        some.taken(2, "line", 2, 0, 3);
    }

    private static void termsWays(Edge some) {
        some.of("WAYS 0 .. 3");
        some.range(-1, 0, 0, 3, "hours", 0, 5, 10);
        some.rangeOrNone(1, 0, 3, "kind", 3, 0, 0);
        some.rangeOrNone(1, 0, 3, "kind", 3, 0, 6);
        some.rangeOrNone(1, 0, 3, "kinds", 0, 0);
        some.rangeOrNone(1, 0, 3, "curve", 62, 0, 0, 1);
        some.rangeOrNone(1, 0, 3, "salt", 3, 0, 3);
        some.rangeOrNone(1, 0, 3, "salt", -1, 0, 3);
        some.rangeOrNone(2, 0, 3, "odds", 0, 3, 0, 5, 0);
    }

    private static void termsYear(Edge some) {
        some.of("of each WAY and pace 0 .. 9").range(-1, 1, 0, 9, "hours", 0, 0, 10);
        some.rangeOrNone(3, 0, 9, "odds", 0, 3, 0, 5, 0);
        some.of("so many HOURS 0 .. 999").range(-1, 2, 0, 999, "hours", 0, 5, 10);
        some.of("what they were");
        some.taken(100, "hours", 0, 5, 0);
        some.taken(20, "hours", 3, 8, 999);
        some.taken(0, "hours", 3, 9, 999);
        TowerFoot t = new TowerFoot();
        for (int i = 0; i < 40; i++) {
            DUE.due("0 at first", t.hours(i / 10, i % 10, 999), 0);
            DUE.due("HOURS in all", t.count(5), 999 * (i + 1));
        }
        for (int i = 0; i < 40; i++) {
            DUE.due("each apart", t.hours(i / 10, i % 10, i), 999);
        }
        for (int i = 0; i < 40; i++) {
            DUE.due("each apart", t.hours(i / 10, i % 10, 0), i);
        }
        DUE.due("none again", t.count(5), 0);
    }

    private static void promise2OutOfTheSquare(Edge some) {
        some.of("-1 (out of the square, too)");
        some.range(-1, 0, 0, 9, "tower", 0, 1, 1, 1, 5);
        some.range(-1, 1, 0, 9, "tower", 8, 0, 1, 1, 5);
        some.taken(3, "tower", 8, 1, 2, 1, 5);
        some.refused(-1, "tower", 9, 1, 2, 1, 5);
        some.taken(3, "tower", 5, 1, 5, 1, 5);
        some.refused(-1, "tower", 6, 1, 5, 1, 5);
        some.taken(3, "tower", 8, 8, 1, 2, 5);
        some.refused(-1, "tower", 8, 9, 1, 2, 5);
        some.taken(3, "tower", 8, 5, 1, 5, 5);
        some.refused(-1, "tower", 8, 6, 1, 5, 5);
        some.refused(-1, "tower", MAX, 1, 5, 1, 5);
        some.refused(-1, "tower", 1, MAX, 1, 5, 5);
        some.none("ahead", Due.row(9, 1, 2, 1, 5), Due.row(6, 1, 5, 1, 5), Due.row(8, 9, 1, 2, 5),
                Due.row(8, 6, 1, 5, 5), Due.row(10, 0, 1, 1, 5), Due.row(-1, 1, 2, 1, 5),
                Due.row(0, 10, 1, 1, 5), Due.row(1, -1, 1, 2, 5), Due.row(MAX, 1, 5, 1, 5));
    }

    private static void promise2InTheWay(Edge some) {
        some.of("-3 a CELL of another one").refused(-3, "tower", 7, 2, 1, 1, 5);
        some.of("a PLACE").refused(-3, "tower", 6, 6, 1, 1, 5);
        some.refused(-3, "tower", 5, 6, 2, 2, 5);
        some.taken(3, "tower", 7, 6, 2, 2, 5);
        some.of("a WORK's CELL: TREES").refused(-3, "tower", 0, 7, 1, 1, 5);
        some.of("a WORK's CELL: a SCREEN").refused(-3, "tower", 3, 2, 1, 1, 5);
        some.of("a WORK's CELL: a USE from").refused(-3, "tower", 3, 4, 1, 1, 5);
        some.of("a WORK's CELL: a USE to").refused(-3, "tower", 9, 9, 1, 1, 5);
        some.of("a WORK's CELL: it is dropped");
        some.after("drop", 0).taken(3, "tower", 0, 7, 1, 1, 5);
        some.after("drop", 3).taken(3, "tower", 9, 9, 1, 1, 5);
        some.of("a WORK's CELL: it is built").after("build", 1).taken(3, "tower", 0, 7, 1, 1, 5);
        some.of("a TOWER's WORK has no CELL");
        Run lower = Run.bare().then("tower", 5, 5, 1, 1, 9).then("work", 2, 0, 7, 1);
        new Edge(DUE, lower).taken(1, "tower", 0, 0, 1, 1, 5);
        new Edge(DUE, lower).taken(1, "tower", 7, 0, 1, 1, 5);
        Run screen = Run.bare().then("work", 1, 40, 7, 1).then("work", 0, 41, 9, 1);
        new Edge(DUE, screen).taken(0, "tower", 7, 0, 1, 1, 5);
        new Edge(DUE, screen).taken(0, "tower", 9, 0, 1, 1, 5);
        TowerFoot t = Run.some().play();
        DUE.due("TREES, a SCREEN, a USE are not", t.tower(3, 3, 1, 1, 5), 3);
        DUE.due("TREES, a SCREEN, a USE are not", t.tower(4, 2, 1, 2, 5), 4);
    }

    private static void promise2NoRoom() {
        Edge full = new Edge(DUE, Run.full());
        full.of("-5, the last of these").refused(-5, "tower", 9, 9, 1, 1, 1);
        full.of("-3 is ahead of -5").refused(-3, "tower", 0, 0, 1, 1, 1);
        full.refused(-3, "tower", 0, 1, 1, 1, 1);
        full.refused(-3, "tower", 0, 5, 1, 1, 1);
        full.of("-1 is ahead of -3 and -5").refused(-1, "tower", 0, 0, 1, 1, 0);
        full.refused(-1, "tower", 0, 0, 6, 1, 1);
        full.refused(-1, "tower", 9, 9, 1, 2, 1);
    }

    private static void promise3High(Edge some) {
        some.of("what it was");
        some.taken(20, "high", 0, 40);
        some.taken(7, "high", 1, 1);
        some.taken(33, "high", 2, 33);
        some.of("-1 is ahead of -2");
        some.refused(-1, "high", 3, 41);
        some.refused(-1, "high", -1, 0);
        some.refused(-1, "high", MAX, MIN);
    }

    private static void promise4At(Edge some) {
        some.of("The TOWER in a CELL");
        int[][] towers = {{44, 0}, {45, 0}, {54, 0}, {55, 0}, {80, 1}, {81, 1}, {27, 2}};
        for (int[] p : towers) {
            some.asked(p[1], "at", p[0]);
        }
        some.of("NONE").none("at", Due.row(43), Due.row(46), Due.row(34), Due.row(64), Due.row(82),
                Due.row(79), Due.row(26), Due.row(28));
    }

    private static void promise5PutOnATower(Edge some) {
        some.of("-3 a TOWER");
        for (int what = 0; what < 3; what++) {
            some.refused(-3, "put", 44, what, 0);
            some.refused(-3, "put", 55, what, 3);
        }
        some.of("-1 is ahead of -3").refused(-1, "put", 44, 0, 10);
        some.refused(-1, "put", 44, 2, 4);
        some.refused(-1, "put", 44, 3, 0);
        some.refused(-1, "put", 44, -1, 0);
    }

    private static void promise6OfATower(Edge some) {
        some.of("NONE (a TOWER, too)");
        some.none("of", Due.row(44, 0), Due.row(44, 1), Due.row(44, 2), Due.row(81, 0));
        some.asked(4, "of", 33, 0);
        some.asked(5, "of", 24, 1);
        some.asked(3, "of", 43, 2);
        some.asked(0, "of", 82, 0);
    }
}
