/** The edges that Terms III and promises 32 to 35 name of PLACES, GLASSES, SALT and ODDS. */
public final class GlassEdgeTest {
    private static final Due DUE = new Due("GlassEdgeTest");
    private static final int MIN = Integer.MIN_VALUE;
    private static final int MAX = Integer.MAX_VALUE;

    public static void main(String[] args) {
        Edge some = new Edge(DUE, Run.some());
        promise32Cell(some);
        promise32InTheWay(some);
        promise32TwelveAtMost();
        promise33ThreeAway();
        promise33What(some);
        promise33NothingBad();
        promise33NotAll();
        promise33LowestAndHowMany();
        promise34Told(some);
        promise34LeastPace();
        promise34FromHowMany();
        promise35Numbers(some);
        promise35AsMuchOrMore();
        promise35WithoutSuchHours();
        promise35LowestTerms();
        DUE.end();
    }

    private static void promise32Cell(Edge some) {
        some.of("-1").range(-1, 0, 0, 99, "place", 0);
        some.of("its number").taken(3, "place", 0);
    }

    private static void promise32InTheWay(Edge some) {
        some.of("-3 no ground").refused(-3, "place", 44);
        some.refused(-3, "place", 55);
        some.refused(-3, "place", 80);
        some.of("-3 a PLACE is there").refused(-3, "place", 60);
        some.refused(-3, "place", 32);
        some.refused(-3, "place", 66);
        some.of("a WORK's CELL, a USE, TREES are not").taken(3, "place", 70);
        some.taken(3, "place", 34);
        some.taken(3, "place", 33);
        Edge full = new Edge(DUE, Run.full());
        full.of("-3 is ahead of -5").refused(-3, "place", 0);
        full.refused(-3, "place", 61);
        full.of("-1 is ahead of -5").refused(-1, "place", 100);
        full.refused(-1, "place", -1);
    }

    private static void promise32TwelveAtMost() {
        Run run = Run.bare();
        for (int i = 0; i < 12; i++) {
            new Edge(DUE, run).of("PLACES 0 .. 11").taken(i, "place", 99 - i);
            run = run.then("place", 99 - i);
            DUE.due("how many", run.play().count(4), i + 1);
        }
        new Edge(DUE, run).of("12 at most").refused(-5, "place", 0);
        new Edge(DUE, run).of("the first is kept").refused(-3, "place", 99);
        new Edge(DUE, run).of("the last is kept").refused(-3, "place", 88);
    }

    private static Run seats(int... cells) {
        Run run = Run.bare().then("hours", 0, 5, 1).then("line", 1, 0, 4);
        for (int cell : cells) {
            run = run.then("put", cell, 2, 1);
        }
        return run;
    }

    /** "a glass watches CELLS at most 3 away (x and y apart together)": any two CELLS. */
    private static void promise33ThreeAway() {
        for (int place = 0; place < 100; place++) {
            for (int bad = 0; bad < 100; bad++) {
                int apart = Math.abs(place % 10 - bad % 10) + Math.abs(place / 10 - bad / 10);
                if (apart > 5 && Math.abs(place - bad) > 12) {
                    continue;
                }
                TowerFoot t = new TowerFoot();
                t.hours(0, 5, 1);
                t.line(1, 0, 4);
                t.put(bad, 2, 1);
                t.place(place);
                String name = bad + " watched from " + place;
                DUE.due(name, t.glass(0), apart <= 3 ? 1 : -1);
                DUE.due(name, t.glass(1), apart <= 3 ? 1 : -1);
                DUE.due(name, t.glass(2), apart <= 3 ? 1 : 0);
            }
        }
    }

    private static void glass(String words, Run run, int many, int which, int sets) {
        Edge edge = new Edge(DUE, run).of(words);
        edge.asked(many, "glass", 0);
        edge.asked(which, "glass", 1);
        edge.asked(sets, "glass", 2);
    }

    private static void promise33What(Edge some) {
        some.of("what 0, 1, 2").none("glass", Due.row(-1), Due.row(3), Due.row(MIN), Due.row(MAX));
        Edge bare = new Edge(DUE, Run.bare()).of("what 0, 1, 2");
        bare.none("glass", Due.row(-1), Due.row(3));
    }

    private static void promise33NothingBad() {
        glass("nothing BAD, no PLACE", Run.bare(), 0, 0, 1);
        glass("nothing BAD", seats().then("place", 5), 0, 0, 1);
        glass("just within its LINE", seats(5).then("line", 1, 1, 1).then("place", 5), 0, 0, 1);
        glass("BAD by one HOUR", seats(5).then("place", 5), 1, 1, 1);
    }

    private static void promise33NotAll() {
        glass("no PLACE", seats(5), -1, -1, 0);
        glass("too far", seats(5).then("place", 9), -1, -1, 0);
        glass("one of two", seats(5, 99).then("place", 5), -1, -1, 0);
        glass("both", seats(5, 99).then("place", 5).then("place", 99), 2, 3, 1);
        glass("across an edge it is far", seats(9).then("place", 10), -1, -1, 0);
        glass("across an edge it is far", seats(10).then("place", 9), -1, -1, 0);
    }

    private static void promise33LowestAndHowMany() {
        glass("any of three", seats(55).then("place", 54).then("place", 56).then("place", 45),
                1, 1, 3);
        glass("the last alone", seats(0, 6).then("place", 0).then("place", 6).then("place", 3),
                1, 4, 1);
        glass("fewer ahead of lower", seats(0, 6).then("place", 0).then("place", 6), 2, 3, 1);
        glass("two of four", seats(0, 9).then("place", 0).then("place", 9).then("place", 1)
                .then("place", 8), 2, 3, 4);
        glass("one that watches nothing", seats(55).then("place", 0).then("place", 55), 1, 2, 1);
        Run twelve = seats(55);
        for (int i = 0; i < 11; i++) {
            twelve = twelve.then("place", i < 10 ? i : 10);
        }
        glass("the twelfth alone", twelve.then("place", 55), 1, 2048, 1);
        int[] apart = {0, 4, 8, 22, 26, 40, 44, 48, 62, 66, 80, 84};
        Run all = seats(apart);
        for (int cell : apart) {
            all = all.then("place", cell);
        }
        glass("all twelve", all, 12, 4095, 1);
        glass("a thirteenth that none watches", all.then("put", 99, 2, 1), -1, -1, 0);
    }

    private static void promise34Told(Edge some) {
        some.of("a told pace 0 .. 9999").none("salt", Due.row(3, 0, -1), Due.row(3, 0, 10000),
                Due.row(-1, 0, -1), Due.row(-1, 0, 10000), Due.row(3, 0, MIN), Due.row(3, 0, MAX));
        some.asked(1, "salt", 3, 0, 0);
        some.none("salt", Due.row(3, 0, 9999));
        some.asked(0, "salt", -1, 0, 9999);
        some.asked(Run.some().play().count(1), "salt", -1, 0, 0);
        some.of("NONE: a TOWER").none("salt", Due.row(44, 0, 0), Due.row(27, 0, 0));
    }

    /** "the least pace 0 .. 9 by which the pace there is above a told one". */
    private static void promise34LeastPace() {
        for (int quick : new int[] {0, 1, 50, 99, 100, 101, 111, 112, 250, 998, 999}) {
            Run run = Run.bare().law("quick " + quick).then("force", 0);
            TowerFoot t = run.play();
            for (int told = 0; told <= 91; told++) {
                int want = -1;
                for (int pace = 9; pace >= 0; pace--) {
                    want = pace * quick > 100 * told ? pace : want;
                }
                DUE.due("QUICK " + quick + ", above " + told, t.salt(50, 2, told), want);
                DUE.due("from how many", t.salt(-1, 2, told), want == -1 ? 0 : 100);
            }
        }
    }

    private static void promise34FromHowMany() {
        Run run = Run.bare().law("quick 100+x").then("force", 0).then("tower", 9, 0, 1, 1, 1);
        // at pace 9: 9 by x 0, 9.09 by 1, .. 9.81 by 9, where one is no ground
        Edge edge = new Edge(DUE, run).of("from how many at pace 9");
        edge.asked(99, "salt", -1, 0, 8);
        edge.asked(89, "salt", -1, 0, 9);
        edge.asked(0, "salt", -1, 0, 10);
        edge.of("(never, too)").none("salt", Due.row(0, 0, 9), Due.row(9, 0, 8));
        edge.asked(9, "salt", 1, 0, 9);
        edge.asked(9, "salt", 99, 0, 9);
        edge.none("salt", Due.row(-1, -1, 9), Due.row(-1, 4, 9));
    }

    private static void promise35Numbers(Edge some) {
        some.of("what 0, 1").rangeOrNone(4, 0, 1, "odds", 0, 34, 0, 5, 0);
        some.of("no such TOWER").none("odds", Due.row(-1, 34, 0, 5, 0), Due.row(3, 34, 0, 5, 0),
                Due.row(6, 34, 0, 5, 1), Due.row(MIN, 34, 0, 5, 0), Due.row(MAX, 34, 0, 5, 1));
        some.of("a TOWER's CELL").none("odds", Due.row(0, 44, 0, 5, 0), Due.row(0, 27, 0, 5, 1),
                Due.row(1, 44, 0, 5, 0));
        some.of("a pace 0 .. 9").rangeOrNone(3, 0, 9, "odds", 0, 34, 0, 5, 1);
        some.of("a WAY 0 .. 3").rangeOrNone(2, 0, 3, "odds", 0, 34, 0, 5, 1);
    }

    private static void odds(String words, Run run, int pace, int upper, int lower) {
        Edge edge = new Edge(DUE, run).of(words);
        edge.asked(upper, "odds", 0, 45, 0, pace, 0);
        edge.asked(lower, "odds", 0, 45, 0, pace, 1);
    }

    /** A TOWER that makes it twice as quick in 45 as it would be without. */
    private static Run twice() {
        Run run = Run.bare().then("tower", 5, 5, 1, 1, 9).law("quick 200 if kind=2")
                .then("force", 0);
        for (int pace = 0; pace < 10; pace++) {
            run = run.then("hours", 0, pace, 1 << pace).then("hours", 1, pace, 999);
        }
        return run;
    }

    private static void promise35AsMuchOrMore() {
        // at pace p it is 2 p: HOURS of p and more; without it it would be from 2 p on
        for (int pace = 0; pace < 10; pace++) {
            int all = 0;
            int part = 0;
            for (int p = pace; p < 10; p++) {
                all += 1 << p;
                part += p < 2 * pace ? 1 << p : 0;
            }
            int common = gcd(all, part);
            odds("as much as then or more", twice(), pace, part / common, all / common);
        }
        Run slower = Run.bare().then("tower", 5, 5, 1, 1, 9).law("quick 50 if kind=2")
                .then("force", 0).then("hours", 0, 5, 10).then("hours", 0, 9, 10);
        odds("it would be more without", slower, 5, 0, 1);
        Run other = twice().then("tower", 0, 0, 1, 1, 9);
        Edge edge = new Edge(DUE, other).of("another TOWER made nothing");
        edge.asked(0, "odds", 1, 45, 0, 5, 0);
        edge.asked(1, "odds", 1, 45, 0, 5, 1);
        Run still = twice().law("quick 0").then("force", 1);
        odds("as much in any HOUR, without it too", still, 9, 0, 1);
        Run lull = Run.bare().then("tower", 5, 5, 1, 1, 9).law("quick 0;quick 1 if kind=2")
                .then("force", 0).then("hours", 0, 0, 3).then("hours", 0, 1, 5);
        odds("all of them", lull, 1, 1, 1);
        odds("as much in still air", lull, 0, 0, 1);
    }

    private static int gcd(int a, int b) {
        return b == 0 ? a : gcd(b, a % b);
    }

    private static void promise35WithoutSuchHours() {
        Run none = Run.bare().then("tower", 5, 5, 1, 1, 9);
        odds("no HOURS at all", none, 0, 0, 1);
        odds("no HOURS at all", none, 9, 0, 1);
        Run other = none.then("hours", 1, 9, 50).then("hours", 2, 9, 50).then("hours", 3, 9, 50);
        odds("of that WAY none", other, 5, 0, 1);
        Run slow = none.then("hours", 0, 4, 50);
        odds("none as quick", slow, 5, 0, 1);
        odds("just as quick", slow, 4, 1, 1);
    }

    private static void promise35LowestTerms() {
        Run run = Run.bare().then("tower", 5, 5, 1, 1, 40);
        // QUICK 180, without it 100: at pace 5 it is 9, so that only 9 would be without
        odds("2 of 3", run.then("hours", 0, 5, 100).then("hours", 0, 9, 50), 5, 2, 3);
        odds("1 of 2", run.then("hours", 0, 5, 999).then("hours", 0, 9, 999), 5, 1, 2);
        odds("no common one", run.then("hours", 0, 5, 998).then("hours", 0, 9, 999), 5, 998, 1997);
        odds("1 of 1000", run.then("hours", 0, 5, 1).then("hours", 0, 9, 999), 5, 1, 1000);
        odds("all", run.then("hours", 0, 5, 999), 5, 1, 1);
        odds("none", run.then("hours", 0, 9, 999), 5, 0, 1);
        odds("8 would not be", run.then("hours", 0, 8, 6).then("hours", 0, 9, 9), 5, 2, 5);
    }
}
