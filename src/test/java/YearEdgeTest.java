/** The edges that promises 17 to 20, 26, 36 and 37 name: HOURS ABOVE, OVER, BAD, seats, DAYS. */
public final class YearEdgeTest {
    private static final Due DUE = new Due("YearEdgeTest");
    private static final int MIN = Integer.MIN_VALUE;
    private static final int MAX = Integer.MAX_VALUE;

    public static void main(String[] args) {
        Edge some = new Edge(DUE, Run.some());
        promise17Told(some);
        promise17Exactly();
        promise17AllWays();
        promise18MoreThanItsHours();
        promise18LinesEnds();
        promise18NoUse(some);
        promise19Which();
        promise19AllOfThem();
        promise20Kinds(some);
        promise26Seat(some);
        promise26Alike();
        promise36Seed(some);
        promise36NoHours();
        promise36Draw();
        promise36WayAndPace();
        promise36Above();
        promise37Drawn(some);
        DUE.end();
    }

    private static Run quick(int quick) {
        return Run.bare().law("quick " + quick).then("force", 0);
    }

    private static void promise17Told(Edge some) {
        some.of("a PACE 0 .. 9999").rangeOrNone(1, 0, 9999, "above", 3, 0);
        some.of("in a CELL of ground. NONE").none("above", Due.row(44, 0), Due.row(81, 5),
                Due.row(44, 10000), Due.row(100, 10000));
        some.asked(0, "above", 3, 9999);
        some.asked(0, "above", 3, 90);
    }

    /** "whose pace there times 100 is more than a hundred times it (exactly)". */
    private static void promise17Exactly() {
        for (int quick : new int[] {0, 1, 33, 99, 100, 101, 125, 150, 333, 500, 998, 999}) {
            for (int pace = 0; pace < 10; pace++) {
                TowerFoot t = quick(quick).then("hours", 2, pace, 5).play();
                int there = pace * quick;
                int near = there / 100;
                for (int told = Math.max(0, near - 1); told <= near + 1; told++) {
                    DUE.due("pace " + pace + " by QUICK " + quick + " above " + told,
                            t.above(7, told), there > 100 * told ? 5 : 0);
                }
            }
        }
    }

    private static void promise17AllWays() {
        Run run = Run.bare();
        for (int i = 0; i < 40; i++) {
            run = run.then("hours", i / 10, i % 10, 999);
        }
        for (int told = 0; told <= 10; told++) {
            new Edge(DUE, run).of("HOURS of all WAYS and paces")
                    .asked(4 * 999 * Math.max(0, 9 - told), "above", 0, told);
        }
        for (int way = 0; way < 4; way++) {
            TowerFoot t = Run.bare().then("hours", way, 9, 7).play();
            DUE.due("of WAY " + way, t.above(99, 8), 7);
            DUE.due("of WAY " + way, t.above(99, 9), 0);
        }
        TowerFoot t = run.then("tower", 5, 5, 1, 1, 40).play();
        // FRONT 180 by WAY 0, CORNER 190 by 1 and 3, LEE by 2
        DUE.due("9 by FRONT, 8 and 9 by CORNERS", t.above(45, 15), 999 + 4 * 999);
        DUE.due("9 by FRONT, 9 by CORNERS", t.above(45, 16), 999 + 2 * 999);
        DUE.due("9 by CORNERS", t.above(45, 17), 2 * 999);
        DUE.due("never", t.above(45, 18), 0);
    }

    private static void promise18MoreThanItsHours() {
        Run run = Run.bare().then("put", 55, 2, 1).then("line", 1, 0, 4).then("hours", 0, 5, 100);
        for (int hours = 98; hours <= 102; hours++) {
            Edge edge = new Edge(DUE, run.then("line", 1, 1, hours)).of("more than its HOURS");
            int over = Math.max(0, 100 - hours);
            edge.asked(over, "over", 55);
            edge.asked(over, "over", -1);
            edge.asked(over > 0 ? 1 : 0, "bad", -1);
            edge.asked(over > 0 ? 55 : -1, "bad", 0);
        }
    }

    private static void promise18LinesEnds() {
        Run run = quick(999).then("put", 55, 2, 3);
        for (int i = 0; i < 40; i++) {
            run = run.then("hours", i / 10, i % 10, 999);
        }
        Edge first = new Edge(DUE, run).of("LINES at first: 99");
        first.asked(0, "over", 55);
        first.asked(0, "bad", -1);
        TowerFoot t = run.play();
        int[][] paces = {{0, 36}, {9, 36}, {10, 32}, {88, 4}, {89, 4}, {90, 0}, {99, 0}};
        for (int[] p : paces) {
            t.line(3, 0, p[0]);
            DUE.due("PACE " + p[0], t.over(55), 999 * p[1]);
        }
        t.line(3, 0, 0);
        int[] hours = {0, 1, 9998, 9999};
        for (int h : hours) {
            t.line(3, 1, h);
            DUE.due("HOURS " + h, t.over(55), 999 * 36 - h);
        }
        t.line(3, 1, 0);
        for (int cell = 0; cell < 100; cell++) {
            t.put(cell, 2, 3);
            if (cell % 25 == 24) {
                DUE.due("together of " + cell, t.over(-1), (cell < 55 ? cell + 2 : cell + 1) * 35964);
            }
        }
        DUE.due("all of them", t.over(-1), 3596400);
    }

    private static void promise18NoUse(Edge some) {
        some.of("0: not BAD, no USE").asked(0, "over", 0);
        some.asked(0, "over", 99);
        some.of("NONE (a TOWER)").none("over", Due.row(44), Due.row(55), Due.row(80), Due.row(27));
        some.of("all together (cell NONE)");
        TowerFoot t = Run.some().play();
        int sum = 0;
        for (int cell = 0; cell < 100; cell++) {
            sum += Math.max(0, t.over(cell));
        }
        some.asked(sum, "over", -1);
        DUE.due("some is OVER", sum > 0 ? 1 : 0, 1);
        for (int use = 1; use <= 3; use++) {
            for (int other = 1; other <= 3; other++) {
                TowerFoot u = Run.bare().then("put", 50, 2, use).then("line", other, 0, 3)
                        .then("hours", 0, 4, 9).play();
                DUE.due("the LINE of its own USE", u.over(50), use == other ? 9 : 0);
            }
        }
    }

    private static void promise19Which() {
        Run run = Run.bare().law("quick 100+x*10").then("force", 0).then("line", 1, 0, 5)
                .then("hours", 0, 5, 100).then("hours", 0, 4, 10).then("hours", 0, 3, 1)
                .then("put", 90, 2, 1).then("put", 92, 2, 1).then("put", 4, 2, 1)
                .then("put", 14, 2, 1).then("put", 1, 2, 1).then("put", 99, 2, 1);
        // OVER by x: 0 of none, 1 and 2 of 100, 4 of 110, 9 of 111
        Edge edge = new Edge(DUE, run).of("the worst first, of alike ones the lower");
        int[] order = {99, 4, 14, 1, 92};
        for (int i = 0; i < order.length; i++) {
            edge.asked(order[i], "bad", i);
        }
        edge.of("(i NONE: how many)").asked(5, "bad", -1);
        edge.of("NONE").none("bad", Due.row(5), Due.row(6), Due.row(100), Due.row(-2),
                Due.row(MIN), Due.row(MAX));
        Edge none = new Edge(DUE, Run.bare()).of("none is BAD");
        none.asked(0, "bad", -1);
        none.none("bad", Due.row(0), Due.row(-2));
    }

    private static void promise19AllOfThem() {
        TowerFoot t = Run.bare().then("hours", 0, 5, 1).then("line", 2, 0, 4).play();
        for (int cell = 0; cell < 100; cell++) {
            DUE.due("how many", t.bad(-1), cell);
            DUE.due("not yet", t.bad(cell), -1);
            t.put(cell, 2, 2);
        }
        for (int i = 0; i < 100; i++) {
            DUE.due("alike: by CELLS", t.bad(i), i);
        }
        DUE.due("all", t.bad(-1), 100);
        DUE.due("no more", t.bad(100), -1);
    }

    private static void promise20Kinds(Edge some) {
        some.of("NONE").none("kinds", Due.row(-1, 0), Due.row(5, 0), Due.row(0, -1), Due.row(4, 4),
                Due.row(MIN, MIN), Due.row(MAX, MAX));
        TowerFoot t = Run.some().play();
        for (int way = 0; way < 4; way++) {
            int sum = 0;
            for (int kind = 0; kind < 5; kind++) {
                sum += t.kinds(kind, way);
            }
            DUE.due("CELLS of ground alone", sum, t.count(1));
        }
    }

    private static void promise26Seat(Edge some) {
        some.of("a USE 1 .. 3").rangeOrNone(0, 1, 3, "seat", 1, 0);
        int free = Run.some().play().count(1) - 4;
        some.of("the i-th").rangeOrNone(1, 0, free - 1, "seat", 1, 0);
        TowerFoot t = Run.some().play();
        boolean[] seen = new boolean[100];
        int before = -1;
        for (int i = 0; i < free; i++) {
            int cell = t.seat(2, i);
            DUE.due("ground without USE", t.of(cell, 2), 0);
            DUE.due("each once", seen[cell] ? 1 : 0, 0);
            seen[cell] = true;
            int key = t.above(cell, 2) * 100 + cell;
            DUE.due("fewer ahead, of alike ones the lower", key > before ? 1 : 0, 1);
            before = key;
        }
    }

    private static void promise26Alike() {
        TowerFoot t = new TowerFoot();
        for (int i = 0; i < 100; i++) {
            DUE.due("alike: by CELLS", t.seat(3, i), i);
        }
        DUE.due("no more", t.seat(3, 100), -1);
        t.put(0, 2, 1);
        t.put(99, 2, 1);
        DUE.due("the first without USE", t.seat(3, 0), 1);
        DUE.due("the last without USE", t.seat(3, 97), 98);
        DUE.due("no more", t.seat(3, 98), -1);
        Run run = Run.bare().law("quick x*10+100").then("force", 0).then("hours", 0, 5, 10)
                .then("line", 1, 0, 7).then("line", 2, 0, 8).then("line", 3, 0, 9);
        // above 7: x 5 and more; above 8: x 7 and more; above 9: x 9
        int[] first = {5, 7, 9};
        for (int use = 1; use <= 3; use++) {
            Edge edge = new Edge(DUE, run).of("the PACE of the LINE of a USE");
            int calm = 10 * first[use - 1];
            edge.asked(90 + first[use - 1] - 1, "seat", use, calm - 1);
            edge.asked(first[use - 1], "seat", use, calm);
            edge.asked(99, "seat", use, 99);
        }
    }

    private static void promise36Seed(Edge some) {
        some.of("the SEED (0 .. 1,000,000)").range(-1, 0, 0, 1000000, "day", 0);
        some.of("-1").refused(-1, "day", 1000003);
        some.of("kept as the latest").takenBut(Run.some().play().day(5), new String[] {"drawn["},
                "day", 5);
    }

    private static void promise36NoHours() {
        Run run = Run.bare().then("put", 5, 2, 1).then("line", 1, 0, 0);
        Edge edge = new Edge(DUE, run).of("-3 no HOURS in the YEAR");
        edge.refused(-3, "day", 0);
        edge.refused(-3, "day", 1000000);
        edge.of("-1 is ahead of -3").refused(-1, "day", -1);
        edge.refused(-1, "day", 1000001);
        edge.of("one HOUR").after("hours", 0, 0, 1).taken(0, "day", 0);
        edge.after("hours", 3, 9, 1).taken(24, "day", 0);
        Run day = run.then("hours", 2, 7, 1).then("day", 8).then("hours", 2, 7, 0);
        Edge again = new Edge(DUE, day).of("the latest stays behind a refused one");
        again.refused(-3, "day", 9);
        again.asked(2, "drawn", 0, 0);
        again.asked(7, "drawn", 23, 1);
        Edge still = new Edge(DUE, run.then("hours", 2, 7, 1).then("day", 8));
        still.of("the latest stays behind a refused one").refused(-1, "day", 1000001);
    }

    /** Of a YEAR with 40 HOURS, one a WAY and pace, the HOUR is the DRAW itself. */
    private static void promise36Draw() {
        Run run = Run.bare();
        for (int i = 0; i < 40; i++) {
            run = run.then("hours", i / 10, i % 10, 1);
        }
        for (int seed : new int[] {0, 1, 2, 1000, 500000, 999998, 999999, 1000000}) {
            TowerFoot t = run.then("day", seed).play();
            long s = seed;
            for (int hour = 0; hour < 24; hour++) {
                s = (s * 1103 + 12345) % 1000003;
                DUE.due("SEED " + seed + ", HOUR " + hour, 10 * t.drawn(hour, 0) + t.drawn(hour, 1),
                        s % 40);
            }
        }
        TowerFoot t = run.play();
        t.day(0);
        DUE.due("0 draws 12345 first", 10 * t.drawn(0, 0) + t.drawn(0, 1), 12345 % 40);
    }

    /** "the first WAY and pace up to whose HOURS with those of all ahead it is below". */
    private static void promise36WayAndPace() {
        int[][] years = {{0, 1, 39, 1}, {0, 999, 39, 999}, {5, 3, 6, 2}, {9, 1, 10, 2},
            {0, 1, 1, 998}, {38, 998, 39, 1}, {19, 7, 30, 500}};
        for (int[] y : years) {
            Run run = Run.bare().then("hours", y[0] / 10, y[0] % 10, y[1])
                    .then("hours", y[2] / 10, y[2] % 10, y[3]);
            int all = y[1] + y[3];
            boolean[] met = new boolean[2];
            for (int seed = 0; seed < 6; seed++) {
                TowerFoot t = run.then("day", seed * 37).play();
                long s = seed * 37;
                for (int hour = 0; hour < 24; hour++) {
                    s = (s * 1103 + 12345) % 1000003;
                    boolean first = s % all < y[1];
                    met[first ? 0 : 1] = true;
                    int want = first ? y[0] : y[2];
                    DUE.due("WAY", t.drawn(hour, 0), want / 10);
                    DUE.due("pace", t.drawn(hour, 1), want % 10);
                }
            }
            DUE.due("both or one was met", met[0] || met[1] ? 1 : 0, 1);
        }
        Run whole = Run.bare();
        for (int i = 0; i < 40; i++) {
            whole = whole.then("hours", i / 10, i % 10, 999);
        }
        TowerFoot t = whole.then("day", 123456).play();
        long s = 123456;
        for (int hour = 0; hour < 24; hour++) {
            s = (s * 1103 + 12345) % 1000003;
            DUE.due("of all HOURS there can be", 10 * t.drawn(hour, 0) + t.drawn(hour, 1),
                    s % 39960 / 999);
        }
    }

    private static void promise36Above() {
        Run run = Run.bare().then("hours", 0, 5, 1).then("put", 99, 2, 2).then("put", 0, 2, 3);
        int[][] lines = {{5, 5, 0}, {4, 5, 24}, {5, 4, 24}, {4, 4, 24}, {99, 99, 0}, {0, 0, 24}};
        for (int[] p : lines) {
            Edge edge = new Edge(DUE, run.then("line", 2, 0, p[0]).then("line", 3, 0, p[1])
                    .then("line", 2, 1, 9999).then("line", 3, 1, 9999));
            edge.of("a pace above its LINE's PACE").taken(p[2], "day", 1);
        }
        Run still = Run.bare().then("hours", 0, 0, 1).then("put", 99, 2, 2).then("line", 2, 0, 0);
        new Edge(DUE, still).of("still air is not above 0").taken(0, "day", 1);
        Run none = Run.bare().then("hours", 0, 9, 1).then("line", 2, 0, 0);
        new Edge(DUE, none).of("no CELL with a USE").taken(0, "day", 1);
        Run exact = quick(125).then("hours", 3, 8, 1).then("put", 7, 2, 1);
        new Edge(DUE, exact.then("line", 1, 0, 10)).of("exactly").taken(0, "day", 1);
        new Edge(DUE, exact.then("line", 1, 0, 9)).of("exactly").taken(24, "day", 1);
        Run more = quick(126).then("hours", 3, 8, 1).then("put", 7, 2, 1);
        new Edge(DUE, more.then("line", 1, 0, 10)).of("exactly").taken(24, "day", 1);
        Run by = Run.bare().then("tower", 5, 5, 1, 1, 40).then("put", 45, 2, 1)
                .then("line", 1, 0, 9).then("hours", 0, 9, 1);
        new Edge(DUE, by).of("by its own WAY").taken(24, "day", 1);
        new Edge(DUE, by.then("hours", 0, 9, 0).then("hours", 2, 9, 1)).of("by another WAY")
                .taken(0, "day", 1);
    }

    private static void promise37Drawn(Edge some) {
        some.of("an HOUR 0 .. 23").rangeOrNone(0, 0, 23, "drawn", 0, 0);
        some.of("WAY (what 0), pace (1)").rangeOrNone(1, 0, 1, "drawn", 0, 0);
        new Edge(DUE, Run.bare().then("hours", 0, 1, 1)).of("ahead of any DAY")
                .none("drawn", Due.row(0, 0), Due.row(23, 1));
        new Edge(DUE, Run.bare().then("day", 1)).of("a refused DAY").none("drawn", Due.row(0, 0));
        Run kept = Run.bare().then("image", 0).then("hours", 1, 2, 1).then("day", 1).then("back", 0);
        new Edge(DUE, kept).of("IMAGES don't keep it").asked(1, "drawn", 0, 0);
        new Edge(DUE, kept).asked(2, "drawn", 23, 1);
        Run other = Run.bare().then("hours", 1, 2, 1).then("day", 1).then("hours", 1, 2, 0)
                .then("hours", 3, 4, 1);
        new Edge(DUE, other).of("as it was drawn").asked(1, "drawn", 0, 0);
        new Edge(DUE, other.then("day", 1)).of("the latest").asked(3, "drawn", 0, 0);
    }
}
