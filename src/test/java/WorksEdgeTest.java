/** The edges that Terms III and promises 27 to 31 name of WORKS. */
public final class WorksEdgeTest {
    private static final Due DUE = new Due("WorksEdgeTest");
    private static final int MIN = Integer.MIN_VALUE;
    private static final int MAX = Integer.MAX_VALUE;

    public static void main(String[] args) {
        Edge some = new Edge(DUE, Run.some());
        promise27Numbers(some);
        promise27NoSuchTower(some);
        promise27NoGround(some);
        promise27EightAtMost();
        promise27Order();
        promise28Drop(some);
        promise28MoveUp();
        promise29Bits(some);
        promise29NineTreesAtMost();
        promise29IfThatIsMore();
        promise29OneHighAtLeast();
        promise29UseGoes();
        promise29InOrder();
        promise29MoreThanWithout();
        promise29LowestHurt();
        promise29Coin();
        promise30What(some);
        promise30FewestCoin();
        promise30IfNoneAre();
        promise30LowestBits();
        promise30Again();
        promise31Bits(some);
        promise31Go();
        DUE.end();
    }

    private static void promise27Numbers(Edge some) {
        some.of("SORT 0 .. 3").range(-1, 0, 0, 3, "work", 0, 1, 2, 3);
        some.of("TREES (1 .. 9)").range(-1, 2, 1, 9, "work", 0, 50, 1, 5);
        some.of("a SCREEN (1 .. 9").range(-1, 2, 1, 9, "work", 1, 50, 1, 5);
        some.of("a TOWER less HIGH by 1 .. 9").range(-1, 2, 1, 9, "work", 2, 0, 1, 5);
        some.of("CELL, CELL").range(-1, 1, 0, 99, "work", 3, 0, 50, 5);
        some.range(-1, 2, 0, 99, "work", 3, 50, 0, 5);
        some.of("to another one").refused(-1, "work", 3, 50, 50, 5);
        some.refused(-1, "work", 3, 0, 0, 5);
        some.taken(4, "work", 3, 50, 51, 5);
        for (int sort = 0; sort < 4; sort++) {
            some.of("each for COIN 0 .. 999").range(-1, 3, 0, 999, "work", sort, 1, 2, 5);
        }
        some.refused(-1, "work", 4, 1, 2, 5);
        some.refused(-1, "work", -1, 1, 2, 5);
    }

    private static void promise27NoSuchTower(Edge some) {
        some.of("-2 no such TOWER").range(-2, 1, 0, 2, "work", 2, 0, 1, 5);
        new Edge(DUE, Run.bare()).of("none at all").refused(-2, "work", 2, 0, 1, 5);
        some.of("-1 is ahead of -2").refused(-1, "work", 2, 3, 0, 5);
        some.refused(-1, "work", 2, 3, 10, 5);
        some.refused(-1, "work", 2, 3, 1, 1000);
        some.refused(-1, "work", 2, -1, 1, -1);
    }

    private static void promise27NoGround(Edge some) {
        some.of("-3 a CELL is no ground");
        some.refused(-3, "work", 0, 44, 1, 5);
        some.refused(-3, "work", 1, 81, 1, 5);
        some.refused(-3, "work", 3, 27, 50, 5);
        some.refused(-3, "work", 3, 50, 27, 5);
        some.refused(-3, "work", 3, 44, 55, 5);
        some.of("a TOWER's WORK has no CELL").taken(4, "work", 2, 0, 9, 5);
        some.of("-1 is ahead of -3").refused(-1, "work", 0, 44, 10, 5);
        some.refused(-1, "work", 1, 44, 0, 5);
        some.refused(-1, "work", 3, 44, 100, 5);
        some.refused(-1, "work", 3, 44, 44, 5);
        some.refused(-1, "work", 0, 44, 1, 1000);
        some.of("a PLACE, another WORK's CELL are ground").taken(4, "work", 0, 32, 1, 5);
        some.taken(4, "work", 0, 70, 1, 5);
    }

    private static void promise27EightAtMost() {
        Run run = Run.bare();
        for (int i = 0; i < 8; i++) {
            new Edge(DUE, run).of("WORKS 0 .. 7").taken(i, "work", 0, i, 1, 5);
            run = run.then("work", 0, i, 1, 5);
            DUE.due("how many", run.play().count(3), i + 1);
        }
        Edge eight = new Edge(DUE, run).of("8 at most: -5");
        eight.refused(-5, "work", 0, 50, 1, 5);
        eight.refused(-5, "work", 1, 0, 1, 5);
        eight.refused(-5, "work", 3, 50, 51, 5);
        eight.after("drop", 7).of("one went").taken(7, "work", 0, 50, 1, 5);
        eight.after("build", 1).of("one was built").taken(7, "work", 0, 50, 1, 5);
    }

    private static void promise27Order() {
        Edge full = new Edge(DUE, Run.full());
        full.of("-1 is ahead of -5").refused(-1, "work", 0, 50, 0, 5);
        full.refused(-1, "work", 2, 0, 10, 5);
        full.refused(-1, "work", 3, 50, 50, 5);
        full.of("-2 is ahead of -5").refused(-2, "work", 2, 6, 1, 5);
        full.of("-3 is ahead of -5").refused(-3, "work", 0, 0, 1, 5);
        full.refused(-3, "work", 3, 50, 5, 5);
        full.of("-5").refused(-5, "work", 2, 5, 1, 5);
    }

    private static void promise28Drop(Edge some) {
        some.of("-2").range(-2, 0, 0, 3, "drop", 0);
        some.of("how many are left").taken(3, "drop", 0);
        some.taken(3, "drop", 3);
        new Edge(DUE, Run.bare()).of("none at all").refused(-2, "drop", 0);
        Edge full = new Edge(DUE, Run.full());
        full.of("the last of eight").taken(7, "drop", 7);
        full.of("beyond eight").refused(-2, "drop", 8);
    }

    private static void promise28MoveUp() {
        Run run = Run.bare();
        for (int i = 0; i < 8; i++) {
            run = run.then("work", 0, 10 * i, 1 + i, 100 + i);
        }
        for (int gone = 0; gone < 8; gone++) {
            TowerFoot t = run.then("drop", gone).play();
            for (int i = 0; i < 7; i++) {
                int was = i < gone ? i : i + 1;
                DUE.due("those behind it move up", t.done(1 << i, 3), 100 + was);
            }
            DUE.due("no eighth", t.done(128, 3), -1);
            for (int i = 0; i < 7; i++) {
                t.build(1);
                int was = i < gone ? i : i + 1;
                DUE.due("with all that they do", t.of(10 * was, 0), 1 + was);
            }
            DUE.due("but not that which went", t.of(10 * gone, 0), 0);
        }
        Run four = Run.bare().then("tower", 9, 9, 1, 1, 30).then("put", 5, 2, 2)
                .then("work", 0, 5, 2, 1).then("work", 1, 6, 3, 2).then("work", 2, 0, 4, 3)
                .then("work", 3, 5, 7, 4);
        for (int gone = 0; gone < 4; gone++) {
            TowerFoot t = four.then("drop", gone).then("build", 7).play();
            DUE.due("of each SORT: TREES", t.of(5, 0), gone == 0 ? 0 : 2);
            DUE.due("of each SORT: a SCREEN", t.of(6, 1), gone == 1 ? 0 : 3);
            DUE.due("of each SORT: HIGH", t.high(0, 1), gone == 2 ? 30 : 26);
            DUE.due("of each SORT: a USE", t.of(7, 2), gone == 3 ? 0 : 2);
        }
    }

    private static void promise29Bits(Edge some) {
        some.of("works as bits").rangeOrNone(0, 0, 15, "done", 0, 0);
        some.rangeOrNone(0, 0, 15, "done", 0, 1);
        some.rangeOrNone(0, 0, 15, "done", 0, 3);
        some.none("done", Due.row(16, 2), Due.row(-1, 2), Due.row(MIN, 2), Due.row(MAX, 2),
                Due.row(1 << 31, 3), Due.row(256, 3));
        some.of("what 0 .. 3").none("done", Due.row(0, -1), Due.row(0, 4), Due.row(15, MIN),
                Due.row(15, MAX));
        Edge bare = new Edge(DUE, Run.bare()).of("no WORKS");
        bare.asked(0, "done", 0, 0);
        bare.asked(0, "done", 0, 1);
        bare.asked(-1, "done", 0, 2);
        bare.asked(0, "done", 0, 3);
        bare.none("done", Due.row(1, 0), Due.row(1, 3));
        Edge full = new Edge(DUE, Run.full()).of("all of eight");
        full.asked(28, "done", 255, 3);
        full.none("done", Due.row(256, 3), Due.row(511, 3));
        full.asked(7, "done", 128, 3);
    }

    private static void promise29NineTreesAtMost() {
        for (int trees = 0; trees <= 9; trees++) {
            for (int more = 1; more <= 9; more++) {
                TowerFoot t = Run.bare().then("put", 50, 0, trees).then("work", 0, 50, more, 1)
                        .then("build", 1).play();
                DUE.due(trees + " TREES and " + more, t.of(50, 0), Math.min(9, trees + more));
                DUE.due("no SCREEN", t.of(50, 1), 0);
            }
        }
        TowerFoot t = Run.bare().then("work", 0, 50, 9, 1).then("work", 0, 50, 9, 1)
                .then("build", 3).play();
        DUE.due("nine and nine", t.of(50, 0), 9);
        Run seen = Run.bare().law("quick trees").then("force", 0).then("put", 50, 2, 1)
                .then("put", 50, 0, 8).then("hours", 0, 9, 10).then("line", 1, 0, 0)
                .then("work", 0, 50, 2, 1);
        DUE.due("on trial, too", seen.play().done(1, 0), 10);
    }

    private static void promise29IfThatIsMore() {
        for (int screen = 0; screen <= 9; screen++) {
            for (int other = 1; other <= 9; other++) {
                TowerFoot t = Run.bare().then("put", 50, 1, screen).then("work", 1, 50, other, 1)
                        .then("build", 1).play();
                DUE.due("SCREEN " + screen + ", a WORK of " + other, t.of(50, 1),
                        Math.max(screen, other));
                DUE.due("no TREES", t.of(50, 0), 0);
            }
        }
    }

    private static void promise29OneHighAtLeast() {
        for (int high : new int[] {1, 2, 5, 9, 10, 11, 39, 40}) {
            for (int by = 1; by <= 9; by++) {
                TowerFoot t = Run.bare().then("tower", 5, 5, 2, 3, high).then("work", 2, 0, by, 1)
                        .then("build", 1).play();
                DUE.due("all of it", t.kind(46, 0, 2), Math.max(1, high - by));
                DUE.due(high + " HIGH less " + by, t.high(0, 1), Math.max(1, high - by));
                DUE.due("it stands", t.at(76), 0);
            }
        }
        TowerFoot t = Run.bare().then("tower", 5, 5, 1, 1, 12).then("work", 2, 0, 9, 1)
                .then("work", 2, 0, 9, 1).then("build", 3).play();
        DUE.due("twice", t.high(0, 1), 1);
        t = Run.bare().then("tower", 5, 5, 1, 1, 12).then("tower", 7, 7, 1, 1, 12)
                .then("work", 2, 1, 4, 1).then("build", 1).play();
        DUE.due("another one's", t.high(0, 1), 12);
        DUE.due("its own", t.high(1, 1), 8);
    }

    private static void promise29UseGoes() {
        for (int use = 0; use <= 3; use++) {
            for (int other = 0; other <= 3; other++) {
                TowerFoot t = Run.bare().then("put", 50, 2, use).then("put", 60, 2, other)
                        .then("put", 50, 0, 4).then("put", 50, 1, 5)
                        .then("work", 3, 50, 60, 1).then("build", 1).play();
                DUE.due("it is none where it was", t.of(50, 2), 0);
                DUE.due("there it takes the place of what was", t.of(60, 2), use);
                DUE.due("TREES stay", t.of(50, 0), 4);
                DUE.due("a SCREEN stays", t.of(50, 1), 5);
                DUE.due("no TREES there", t.of(60, 0), 0);
            }
        }
    }

    private static void promise29InOrder() {
        Run run = Run.bare().then("put", 10, 2, 1).then("put", 20, 2, 2).then("put", 30, 2, 3);
        TowerFoot t = run.then("work", 3, 10, 20, 1).then("work", 3, 20, 30, 1)
                .then("build", 3).play();
        DUE.due("first to second", t.of(20, 2), 0);
        DUE.due("and on to third", t.of(30, 2), 1);
        t = run.then("work", 3, 20, 30, 1).then("work", 3, 10, 20, 1).then("build", 3).play();
        DUE.due("second to third", t.of(30, 2), 2);
        DUE.due("then first to second", t.of(20, 2), 1);
        t = run.then("work", 3, 10, 20, 1).then("work", 3, 20, 10, 1).then("build", 3).play();
        DUE.due("there and back", t.of(10, 2), 1);
        DUE.due("what was there is gone", t.of(20, 2), 0);
        Run bad = run.then("hours", 0, 5, 7).then("line", 1, 0, 4)
                .then("work", 3, 20, 30, 1).then("work", 3, 10, 20, 1).then("work", 3, 30, 10, 1);
        Edge edge = new Edge(DUE, bad).of("DONE in order of their numbers");
        edge.asked(7, "done", 3, 0);
        edge.asked(0, "done", 4, 0);
        edge.asked(7, "done", 6, 0);
    }

    private static void promise29MoreThanWithout() {
        Run run = Run.bare().law("quick 100+trees*20").then("force", 0).then("put", 50, 2, 1)
                .then("hours", 0, 5, 100).then("hours", 0, 4, 1).then("line", 1, 1, 9999)
                .then("work", 0, 50, 1, 1);
        // 5 becomes 6, 4 becomes 4.8
        int[][] lines = {{3, 0}, {4, 1}, {5, 1}, {6, 0}, {99, 0}};
        for (int[] p : lines) {
            Edge edge = new Edge(DUE, run.then("line", 1, 0, p[0])).of("HURT by PACE " + p[0]);
            edge.asked(p[1], "done", 1, 1);
            edge.asked(p[1] == 1 ? 50 : -1, "done", 1, 2);
            edge.asked(0, "done", 0, 1);
        }
        Edge fewer = new Edge(DUE, Run.bare().law("quick 300-trees*20").then("force", 0)
                .then("put", 50, 2, 1).then("hours", 0, 5, 100).then("line", 1, 0, 13)
                .then("work", 0, 50, 9, 1));
        fewer.of("fewer than without").asked(0, "done", 1, 1);
        Edge none = new Edge(DUE, Run.bare().law("quick trees*50").then("force", 0)
                .then("hours", 0, 5, 100).then("work", 0, 50, 1, 1));
        none.of("a CELL without USE is not HURT").asked(0, "done", 1, 1);
        none.asked(-1, "done", 1, 2);
        Edge moved = new Edge(DUE, run.then("line", 1, 0, 5).then("work", 3, 50, 40, 1));
        moved.of("for the USE that it has then").asked(0, "done", 3, 1);
        moved.asked(0, "done", 2, 1);
        Edge into = new Edge(DUE, run.then("line", 1, 0, 5).then("work", 3, 50, 60, 1)
                .then("work", 0, 60, 1, 1).then("put", 60, 2, 2));
        into.of("for the USE that it has then").asked(1, "done", 6, 1);
        into.asked(60, "done", 6, 2);
        into.asked(0, "done", 4, 1);
    }

    private static void promise29LowestHurt() {
        Run run = Run.bare().law("quick 100+trees*20").then("force", 0).then("hours", 0, 5, 100)
                .then("line", 1, 0, 5);
        int[] cells = {99, 50, 0};
        for (int i = 0; i < cells.length; i++) {
            run = run.then("put", cells[i], 2, 1).then("work", 0, cells[i], 1, 1);
        }
        Edge edge = new Edge(DUE, run).of("the lowest HURT (2)");
        int[] lowest = {-1, 99, 50, 50, 0, 0, 0, 0};
        for (int bits = 0; bits < 8; bits++) {
            edge.asked(Integer.bitCount(bits), "done", bits, 1);
            edge.asked(lowest[bits], "done", bits, 2);
            edge.asked(100 * Integer.bitCount(bits), "done", bits, 0);
        }
        edge.of("what 0 .. 3").none("done", Due.row(7, -1), Due.row(7, 4), Due.row(7, 5),
                Due.row(7, MIN), Due.row(7, MAX));
    }

    private static void promise29Coin() {
        Run run = Run.bare();
        for (int i = 0; i < 8; i++) {
            run = run.then("work", 0, i, 1, i == 0 ? 0 : 999);
        }
        Edge edge = new Edge(DUE, run).of("COIN (3)");
        edge.asked(0, "done", 0, 3);
        edge.asked(0, "done", 1, 3);
        edge.asked(999, "done", 128, 3);
        edge.asked(7 * 999, "done", 255, 3);
    }

    private static void promise30What(Edge some) {
        some.of("COIN (what 0), which (1), OVER then (2)").rangeOrNone(0, 0, 2, "least", 0);
        Edge bare = new Edge(DUE, Run.bare()).of("no WORKS, no CELL is BAD");
        bare.asked(0, "least", 0);
        bare.asked(0, "least", 1);
        bare.asked(0, "least", 2);
    }

    /** A seat that is within its LINE by two TREES or more. */
    private static Run seat() {
        return Run.bare().law("quick 300-trees*50").then("force", 0).then("hours", 0, 5, 100)
                .then("put", 50, 2, 1).then("line", 1, 0, 10);
    }

    private static void least(String words, Run run, int coin, int which, int over) {
        Edge edge = new Edge(DUE, run).of(words);
        edge.asked(coin, "least", 0);
        edge.asked(which, "least", 1);
        edge.asked(over, "least", 2);
    }

    private static void promise30FewestCoin() {
        Run run = seat().then("work", 0, 50, 1, 10).then("work", 0, 50, 1, 10)
                .then("work", 0, 50, 2, 21);
        least("the fewest COIN", run, 20, 3, 0);
        least("the fewest COIN", run.then("work", 0, 40, 2, 19), 19, 8, 0);
        least("the fewest COIN", run.then("work", 0, 40, 2, 0), 0, 8, 0);
        least("nothing, if no CELL is BAD", run.then("put", 50, 2, 0), 0, 0, 0);
        least("just within", run.then("line", 1, 1, 100), 0, 0, 0);
        least("by one HOUR", run.then("line", 1, 1, 99), 20, 3, 0);
        Run eight = seat();
        for (int i = 0; i < 8; i++) {
            eight = eight.then("work", 0, 99 - i, 1, 0);
        }
        least("none of eight helps", eight, 0, 0, 100);
        least("the last of eight alone helps", eight.then("drop", 7).then("work", 0, 50, 2, 999),
                999, 128, 0);
    }

    private static void promise30IfNoneAre() {
        Run run = seat().then("put", 59, 2, 2).then("line", 2, 0, 0);
        least("OVER is least", run.then("work", 0, 50, 2, 999), 999, 1, 100);
        least("then COIN", run.then("work", 0, 50, 2, 999).then("work", 0, 50, 2, 998), 998, 2, 100);
        least("then the lowest as bits", run.then("work", 0, 50, 2, 7).then("work", 0, 50, 2, 7),
                7, 1, 100);
        least("none helps", run.then("work", 0, 50, 1, 0), 0, 0, 200);
        least("what makes it worse", run.then("work", 3, 59, 50, 0).then("line", 2, 0, 99), 0, 1, 0);
    }

    private static void promise30LowestBits() {
        Run run = seat().then("work", 0, 50, 2, 7).then("work", 0, 50, 2, 7)
                .then("work", 0, 50, 2, 7);
        least("of alike ones the lowest", run, 7, 1, 0);
        least("of alike ones the lowest, not the fewest", seat().then("work", 0, 50, 1, 3)
                .then("work", 0, 50, 1, 4).then("work", 0, 50, 2, 7), 7, 3, 0);
        least("COIN 0 is left out", seat().then("work", 0, 99, 1, 0).then("work", 0, 50, 2, 7),
                7, 2, 0);
    }

    /** What least() told before does not matter. */
    private static void promise30Again() {
        Run run = Run.bare().then("hours", 0, 5, 100).then("line", 1, 0, 4);
        TowerFoot t = run.play();
        DUE.due("no CELL is BAD", t.least(2), 0);
        t.put(50, 2, 1);
        DUE.due("one is BAD: OVER", t.least(2), 100);
        DUE.due("one is BAD: which", t.least(1), 0);
        DUE.due("one is BAD: COIN", t.least(0), 0);
        t.work(3, 50, 60, 0);
        DUE.due("it helps nothing", t.least(1), 0);
        t.tower(6, 5, 1, 1, 9);
        t.drop(0);
        t.work(3, 50, 75, 8);
        DUE.due("a LEE helps by no more than its LINE", t.least(2), 100);
        t.put(50, 2, 0);
        DUE.due("no CELL is BAD again", t.least(0), 0);
        t.put(55, 2, 1);
        DUE.due("BAD again", t.least(2), 100);
        t.work(3, 55, 66, 7);
        DUE.due("COIN", t.least(0), 7);
        DUE.due("which", t.least(1), 2);
        DUE.due("OVER", t.least(2), 0);
    }

    private static void promise31Bits(Edge some) {
        some.of("-1").range(-1, 0, 0, 15, "build", 0);
        some.refused(-1, "build", 1 << 31);
        some.refused(-1, "build", 256);
        some.refused(-1, "build", 31);
        Edge bare = new Edge(DUE, Run.bare()).of("no WORKS");
        bare.takenBut(0, new String[0], "build", 0);
        bare.refused(-1, "build", 1);
        Edge full = new Edge(DUE, Run.full()).of("all of eight");
        full.taken(Run.full().play().done(255, 0), "build", 255);
        full.refused(-1, "build", 256);
        full.refused(-1, "build", 511);
    }

    private static void promise31Go() {
        for (int work = 0; work < 8; work++) {
            TowerFoot t = Run.full().then("build", 1 << work).play();
            DUE.due("one of eight goes", t.count(3), 7);
            DUE.due("its TREES are there", t.of(10 + work, 0), 1);
            DUE.due("the others' COIN is left", t.done(127, 3), 28 - work);
        }
        DUE.due("all of eight go", Run.full().then("build", 255).play().count(3), 0);
        DUE.due("all but the last go", Run.full().then("build", 127).play().count(3), 1);
        for (int bits = 0; bits < 16; bits++) {
            TowerFoot t = Run.some().play();
            int over = t.done(bits, 0);
            int coin = t.done(15, 3) - t.done(bits, 3);
            new Edge(DUE, Run.some()).of("OVER of all CELLS then").taken(over, "build", bits);
            t.build(bits);
            int left = 4 - Integer.bitCount(bits);
            DUE.due("they go", t.count(3), left);
            DUE.due("OVER then", t.over(-1), over);
            DUE.due("the others stay", t.done((1 << left) - 1, 3), coin);
            DUE.due("done for good: TREES", t.of(70, 0), 2 * (bits & 1));
            DUE.due("done for good: a SCREEN", t.of(23, 1), (bits & 2) != 0 ? 6 : 0);
            DUE.due("done for good: a USE", t.of(99, 2), (bits & 8) != 0 ? 3 : 0);
            DUE.due("done for good: HIGH", t.high(0, 1), (bits & 4) != 0 ? 11 : 20);
        }
    }
}
