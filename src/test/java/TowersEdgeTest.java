/** The edges that promises 21 to 25 name: DOES, SHARES, one more TOWER, where, a SCREEN's curve. */
public final class TowersEdgeTest {
    private static final Due DUE = new Due("TowersEdgeTest");
    private static final int MIN = Integer.MIN_VALUE;
    private static final int MAX = Integer.MAX_VALUE;

    public static void main(String[] args) {
        Edge some = new Edge(DUE, Run.some());
        promise21BelowNothing();
        promise21NoSuch(some);
        promise22NoSuch(some);
        promise22OneToSix();
        promise22BelowNothing();
        promise23AsByTower(some);
        promise23CouldNot(some);
        promise23NoRoom();
        promise24Least();
        promise24Alike();
        promise24What(some);
        promise24Nowhere();
        promise25Numbers(some);
        promise25NoGround(some);
        promise25InTheSquare();
        promise25IfItHad();
        whatWasAskedDoesNotMatter();
        DUE.end();
    }

    /** A door at 45 that is OVER by 100 in a quicker wind than that of open ground. */
    private static Run door() {
        return Run.bare().then("put", 45, 2, 3).then("line", 3, 0, 5).then("hours", 0, 5, 100);
    }

    /** A door at 45 that is OVER by 100 on open ground, too. */
    private static Run openDoor() {
        return door().then("line", 3, 0, 4);
    }

    private static void promise21BelowNothing() {
        new Edge(DUE, door().then("tower", 4, 4, 1, 1, 1)).of("more by it").asked(100, "does", 0);
        new Edge(DUE, openDoor().then("tower", 4, 4, 1, 1, 1)).of("the same").asked(0, "does", 0);
        new Edge(DUE, openDoor().then("tower", 5, 3, 1, 1, 1)).of("may be below 0")
                .asked(-100, "does", 0);
        Run on = openDoor().then("tower", 5, 4, 1, 1, 1);
        new Edge(DUE, on).of("CELLS on which it stands are without USE then").asked(0, "does", 0);
        Run lee = door().then("tower", 5, 3, 1, 1, 9).then("tower", 5, 5, 1, 1, 9);
        Edge two = new Edge(DUE, lee).of("the others stand");
        two.asked(-100, "does", 0);
        two.asked(0, "does", 1);
    }

    private static void promise21NoSuch(Edge some) {
        some.of("-1,000,000,000: no such TOWER");
        for (int tower : new int[] {MIN, -1, 3, 6, MAX}) {
            some.asked(-1000000000, "does", tower);
        }
        new Edge(DUE, Run.bare()).of("none at all").asked(-1000000000, "does", 0);
        Run six = Run.full();
        new Edge(DUE, six).of("the last of six").asked(0, "does", 5);
        new Edge(DUE, six).of("beyond six").asked(-1000000000, "does", 6);
    }

    private static void promise22NoSuch(Edge some) {
        some.of("-1,000,000,000,000: no such TOWER");
        for (int tower : new int[] {MIN, -1, 3, 6, MAX}) {
            some.asked(-1000000000000L, "share", tower);
        }
        new Edge(DUE, Run.bare()).of("none at all").asked(-1000000000000L, "share", 0);
        Run six = Run.full();
        new Edge(DUE, six).of("the last of six").asked(0, "share", 5);
        new Edge(DUE, six).of("beyond six").asked(-1000000000000L, "share", 6);
    }

    /** So many TOWERS round the door, of which each alone makes it BAD, have even SHARES. */
    private static void promise22OneToSix() {
        Run run = door().law("quick 200 if high>0;quick 200 if trees>0").then("force", 0);
        int[][] round = {{4, 4}, {6, 4}, {5, 5}, {5, 3}, {5, 2}, {5, 1}};
        for (int many = 1; many <= 6; many++) {
            run = run.then("tower", round[many - 1][0], round[many - 1][1], 1, 1, 9);
            for (int tower = 0; tower < many; tower++) {
                new Edge(DUE, run).of("the mean over all orders of " + many + ", times 720")
                        .asked(72000 / many, "share", tower);
            }
            new Edge(DUE, run).of("no such").asked(-1000000000000L, "share", many);
        }
    }

    private static void promise22BelowNothing() {
        Run run = openDoor().then("tower", 5, 3, 1, 1, 9);
        new Edge(DUE, run).of("may be below 0").asked(-72000, "share", 0);
        run = run.then("tower", 5, 2, 1, 1, 9);
        new Edge(DUE, run).of("may be below 0").asked(-36000, "share", 0);
        new Edge(DUE, run).asked(-36000, "share", 1);
        Run great = Run.bare().law("quick 999 if high>0;quick 0 if high<1").then("force", 0)
                .then("tower", 5, 5, 1, 1, 9);
        for (int i = 0; i < 4; i++) {
            great = great.then("hours", i, 9, 999);
        }
        for (int use = 1; use <= 3; use++) {
            great = great.then("line", use, 0, 0);
        }
        great = great.then("put", 45, 2, 1).then("put", 65, 2, 2).then("put", 54, 2, 3)
                .then("put", 56, 2, 1);
        // each has FRONT, two CORNERS and the LEE by one of the four WAYS
        new Edge(DUE, great).of("times 720").asked(4 * 4 * 999 * 720L, "share", 0);
        new Edge(DUE, great).of("DOES").asked(4 * 4 * 999, "does", 0);
    }

    private static void promise23AsByTower(Edge some) {
        some.of("OVER of all CELLS, if one more TOWER were built so");
        for (int[] a : new int[][] {{3, 1, 1, 1, 40}, {0, 0, 5, 1, 1}, {8, 1, 2, 5, 9},
            {2, 4, 1, 1, 9}, {3, 3, 1, 1, 9}, {6, 4, 1, 2, 40}}) {
            TowerFoot t = Run.some().play();
            t.tower(a[0], a[1], a[2], a[3], a[4]);
            DUE.due("it was built", t.status(), 0);
            some.asked(t.over(-1), "ahead", a);
        }
    }

    private static void promise23CouldNot(Edge some) {
        some.of("NONE (it could not): a number that can't be");
        some.none("ahead", Due.row(-1, 0, 1, 1, 1), Due.row(10, 0, 1, 1, 1), Due.row(0, -1, 1, 1, 1),
                Due.row(0, 10, 1, 1, 1), Due.row(0, 0, 0, 1, 1), Due.row(0, 0, 6, 1, 1),
                Due.row(0, 0, 1, 0, 1), Due.row(0, 0, 1, 6, 1), Due.row(0, 0, 1, 1, 0),
                Due.row(0, 0, 1, 1, 41), Due.row(9, 0, 2, 1, 1), Due.row(0, 9, 1, 2, 1),
                Due.row(MIN, MIN, MIN, MIN, MIN), Due.row(MAX, MAX, MAX, MAX, MAX));
        some.of("NONE (it could not): a TOWER, a PLACE, a WORK's CELL");
        some.none("ahead", Due.row(4, 4, 1, 1, 1), Due.row(5, 5, 1, 1, 1), Due.row(2, 3, 1, 1, 1),
                Due.row(6, 6, 1, 1, 1), Due.row(0, 7, 1, 1, 1), Due.row(3, 2, 1, 1, 1),
                Due.row(3, 4, 1, 1, 1), Due.row(9, 9, 1, 1, 1));
    }

    private static void promise23NoRoom() {
        new Edge(DUE, Run.full()).of("NONE (it could not): six are there")
                .none("ahead", Due.row(9, 9, 1, 1, 1), Due.row(8, 4, 2, 1, 1));
        Run five = Run.bare();
        for (int i = 0; i < 5; i++) {
            five = five.then("tower", i, 0, 1, 1, 5 + i);
        }
        new Edge(DUE, five).of("the sixth").asked(0, "ahead", 9, 9, 1, 1, 1);
    }

    private static void promise24Least() {
        TowerFoot t = Run.some().play();
        int least = MAX;
        int where = -1;
        int many = 0;
        for (int cell = 0; cell < 100; cell++) {
            int over = t.ahead(cell % 10, cell / 10, 2, 2, 25);
            many += over == -1 ? 0 : 1;
            if (over != -1 && over < least) {
                least = over;
                where = cell;
            }
        }
        Edge some = new Edge(DUE, Run.some()).of("OVER of all CELLS is least then");
        some.asked(where, "site", 2, 2, 25, 0);
        some.asked(least, "site", 2, 2, 25, 1);
        some.asked(many, "site", 2, 2, 25, 2);
        DUE.due("it is built there", t.tower(where % 10, where / 10, 2, 2, 25), 3);
        DUE.due("OVER then", t.over(-1), least);
    }

    private static void promise24Alike() {
        Edge bare = new Edge(DUE, Run.bare()).of("of alike ones the lowest");
        bare.asked(0, "site", 1, 1, 1, 0);
        bare.asked(0, "site", 5, 5, 40, 0);
        Edge first = new Edge(DUE, Run.bare().then("place", 0).then("work", 0, 1, 1, 1));
        first.of("the lowest that can be").asked(2, "site", 1, 1, 1, 0);
        Edge open = new Edge(DUE, openDoor());
        open.of("lees of it, the lowest").asked(15, "site", 1, 1, 1, 0);
        open.asked(0, "site", 1, 1, 1, 1);
        Edge front = new Edge(DUE, Run.bare().then("put", 0, 2, 3).then("line", 3, 0, 4)
                .then("hours", 0, 5, 100));
        front.of("on the door itself").asked(0, "site", 1, 1, 1, 0);
        front.asked(0, "site", 1, 1, 1, 1);
        front.after("place", 0).of("nowhere that helps").asked(100, "site", 1, 1, 1, 1);
        front.after("place", 0).asked(1, "site", 1, 1, 1, 0);
    }

    private static void promise24What(Edge some) {
        some.of("what 0, 1, 2").rangeOrNone(3, 0, 2, "site", 1, 1, 1, 0);
        some.of("WIDE, DEEP, HIGH that can't be");
        for (int what = 0; what < 2; what++) {
            some.none("site", Due.row(0, 1, 1, what), Due.row(6, 1, 1, what),
                    Due.row(1, 0, 1, what), Due.row(1, 6, 1, what), Due.row(1, 1, 0, what),
                    Due.row(1, 1, 41, what), Due.row(MIN, 1, 1, what), Due.row(1, MAX, 1, what),
                    Due.row(1, 1, MIN, what));
        }
        for (int[] a : new int[][] {{0, 1, 1}, {6, 1, 1}, {1, 0, 1}, {1, 6, 1}, {1, 1, 0},
            {1, 1, 41}, {MIN, MIN, MIN}, {MAX, MAX, MAX}}) {
            some.asked(0, "site", a[0], a[1], a[2], 2);
        }
        for (int wide = 1; wide <= 5; wide++) {
            for (int deep = 1; deep <= 5; deep++) {
                DUE.due("places of " + wide + ", " + deep,
                        new TowerFoot().site(wide, deep, 40, 2), (11 - wide) * (11 - deep));
            }
        }
    }

    private static void promise24Nowhere() {
        Edge full = new Edge(DUE, Run.full()).of("six are there");
        full.asked(0, "site", 1, 1, 1, 2);
        full.none("site", Due.row(1, 1, 1, 0), Due.row(1, 1, 1, 1));
        Run one = Run.bare().then("tower", 0, 0, 5, 5, 1).then("tower", 5, 0, 5, 5, 1)
                .then("tower", 0, 5, 5, 5, 1).then("tower", 5, 5, 4, 5, 1);
        Edge strip = new Edge(DUE, one).of("in one place");
        strip.asked(1, "site", 1, 5, 1, 2);
        strip.asked(59, "site", 1, 5, 1, 0);
        strip.asked(2, "site", 1, 4, 1, 2);
        strip.of("in none").asked(0, "site", 2, 1, 1, 2);
        strip.none("site", Due.row(2, 1, 1, 0), Due.row(2, 1, 1, 1));
        strip.after("place", 79).of("a PLACE in its middle").asked(0, "site", 1, 5, 1, 2);
        strip.after("place", 79).none("site", Due.row(1, 5, 1, 0), Due.row(1, 5, 1, 1));
        strip.after("place", 79).asked(2, "site", 1, 2, 1, 2);
        strip.after("tower", 9, 5, 1, 5, 1).of("no ground at all").asked(0, "site", 1, 1, 1, 2);
    }

    private static void promise25Numbers(Edge some) {
        some.of("a SCREEN 0 .. 9").rangeOrNone(2, 0, 9, "curve", 3, 0, 0, 1);
        some.of("the k-th CELL (1 .. 5)").rangeOrNone(3, 1, 5, "curve", 3, 0, 0, 1);
        some.of("from a CELL of ground");
        some.none("curve", Due.row(44, 0, 3, 2), Due.row(54, 0, 3, 1), Due.row(80, 0, 3, 1));
    }

    private static void promise25NoGround(Edge some) {
        some.of("no ground in the square there");
        some.none("curve", Due.row(34, 0, 3, 1), Due.row(34, 0, 3, 2), Due.row(64, 2, 3, 1),
                Due.row(43, 3, 3, 1), Due.row(46, 1, 3, 2));
        some.of("ground behind a TOWER");
        DUE.due("behind it", Run.some().play().curve(34, 0, 3, 3), 50);
        some.asked(Run.some().play().kind(64, 0, 6), "curve", 34, 0, 5, 3);
    }

    /** Each k from each CELL by each WAY: NONE beyond an edge, and never across it. */
    private static void promise25InTheSquare() {
        for (int way = 0; way < 4; way++) {
            for (int k = 1; k <= 5; k++) {
                TowerFoot t = Run.bare().law("quick 10*y+x").then("force", 0).play();
                for (int cell = 0; cell < 100; cell++) {
                    int x = cell % 10 + (way == 3 ? k : way == 1 ? -k : 0);
                    int y = cell / 10 + (way == 0 ? k : way == 2 ? -k : 0);
                    boolean in = x >= 0 && x < 10 && y >= 0 && y < 10;
                    DUE.due("the " + k + "-th DOWN from " + cell + " by " + way,
                            t.curve(cell, way, 3, k), in ? 10 * y + x : -1);
                }
            }
        }
    }

    /** What is answered does not depend on what was asked before a change. */
    private static void whatWasAskedDoesNotMatter() {
        Run some = Run.some();
        Run asked = some.then("share", 0).then("share", 1).then("least", 0).then("least", 1)
                .then("site", 2, 1, 30, 1).then("glass", 1).then("over", -1).then("done", 15, 0)
                .then("kind", 34, 0, 6).then("does", 0);
        Run[] changes = {
            Run.none().then("tower", 4, 3, 1, 1, 9), Run.none().then("high", 0, 1),
            Run.none().then("put", 64, 0, 9), Run.none().then("put", 34, 2, 0),
            Run.none().then("line", 1, 0, 1), Run.none().then("line", 1, 1, 9999),
            Run.none().then("hours", 0, 5, 999), Run.none().text("\u0003\u0003").then("row"),
            Run.none().law("quick 5"), Run.none().then("force", 1), Run.none().then("force", -1),
            Run.none().then("work", 0, 34, 9, 0), Run.none().then("drop", 3),
            Run.none().then("build", 15), Run.none().then("place", 34), Run.none().then("day", 6),
            Run.none().then("image", 1), Run.none().then("back", 0),
            Run.none().then("put", 44, 0, 1).then("law").then("row").then("drop", 9),
        };
        TowerFoot many = some.play();
        for (int wide = 0; wide <= 6; wide++) {
            for (int high : new int[] {0, 1, 2, 10, 11, 40, 41}) {
                for (int what = 0; what < 3; what++) {
                    DUE.due("site() behind other ones", many.site(wide, 2, high, what),
                            some.play().site(wide, 2, high, what));
                    DUE.due("site() behind other ones", many.site(1, wide, high, what),
                            some.play().site(1, wide, high, what));
                }
            }
        }
        int[][] odd = {{11, 1, 1}, {1, 2, 1}, {1, 11, 1}, {1, 1, 2}, {1, 0, 2}, {11, 0, 1},
            {1, 1, 1}, {-9, 2, 1}, {1, 1, 1}, {1, -9, 2}, {1, 1, 1}, {1, 1, -40}, {1, 1, 1},
            {5, 11, 0}, {5, 1, 1}, {111, 0, 0}, {1, 1, 1}};
        for (int[] a : odd) {
            for (int what = 2; what >= 0; what--) {
                DUE.due("site() behind one that can't be", many.site(a[0], a[1], a[2], what),
                        some.play().site(a[0], a[1], a[2], what));
            }
        }
        for (int i = 0; i < changes.length; i++) {
            String difference = Portrait.difference(Portrait.of(some.then(changes[i])),
                    Portrait.of(asked.then(changes[i])));
            DUE.due("asked before change " + i + ": " + difference, difference == null ? 0 : 1, 0);
        }
    }

    private static void promise25IfItHad() {
        Run run = Run.bare().law("quick 100+screen").then("force", 0).then("put", 50, 1, 4);
        for (int screen = 0; screen <= 9; screen++) {
            Edge edge = new Edge(DUE, run).of("if that had a SCREEN");
            for (int k = 1; k <= 5; k++) {
                edge.asked(k <= 3 ? 100 + screen : 100, "curve", 50, 3, screen, k);
            }
        }
        Edge two = new Edge(DUE, run.then("put", 51, 1, 6)).of("another SCREEN between");
        two.asked(100 + 9, "curve", 50, 3, 9, 1);
        two.asked(100 + 6, "curve", 50, 3, 5, 2);
        two.asked(100 + 7, "curve", 50, 3, 7, 2);
        two.asked(100 + 6, "curve", 50, 3, 9, 4);
        two.asked(100, "curve", 50, 3, 9, 5);
    }
}
