/** Promises 27 to 31: WORKS, what is by some of them, the LEAST, and building them. */
public final class WorksTest {
    private static final Due DUE = new Due("WorksTest");
    private static final int MIN = Integer.MIN_VALUE;
    private static final int MAX = Integer.MAX_VALUE;

    public static void main(String[] args) {
        promise27Work();
        promise28Drop();
        promise29Sorts();
        promise29Order();
        promise29Hurt();
        promise29None();
        promise30Least();
        promise30Alike();
        promise31Build();
        promise31Refused();
        DUE.end();
    }

    private static void promise27Work() {
        TowerFoot t = new TowerFoot();
        t.tower(5, 5, 1, 1, 20);
        int[][] wrong = {{-1, 0, 1, 1}, {4, 0, 1, 1}, {0, -1, 1, 1}, {0, 100, 1, 1}, {0, 0, 0, 1},
            {0, 0, 10, 1}, {0, 0, 1, -1}, {0, 0, 1, 1000}, {1, -1, 1, 1}, {1, 100, 1, 1},
            {1, 0, 0, 1}, {1, 0, 10, 1}, {2, 0, 0, 1}, {2, 0, 10, 1}, {3, -1, 1, 1},
            {3, 1, 100, 1}, {3, 1, -1, 1}, {3, 100, 1, 1}, {3, 1, 1, 1}, {2, 0, 1, 1000},
            {MIN, MIN, MIN, MIN}, {MAX, MAX, MAX, MAX}};
        for (int[] a : wrong) {
            DUE.refused(t, "work", -1, a);
        }
        DUE.refused(t, "work", -2, 2, 1, 1, 1);
        DUE.refused(t, "work", -2, 2, 9, 1, 1);
        DUE.refused(t, "work", -2, 2, -1, 1, 1);
        DUE.refused(t, "work", -1, 2, 1, 0, 1);
        DUE.refused(t, "work", -3, 0, 55, 1, 1);
        DUE.refused(t, "work", -3, 1, 55, 1, 1);
        DUE.refused(t, "work", -3, 3, 55, 1, 1);
        DUE.refused(t, "work", -3, 3, 1, 55, 1);
        DUE.refused(t, "work", -1, 0, 55, 10, 1);
        DUE.due("none yet", t.count(3), 0);
        DUE.due("trees", t.work(0, 0, 9, 0), 0);
        DUE.due("status", t.status(), 0);
        DUE.due("screen", t.work(1, 99, 1, 999), 1);
        DUE.due("less high", t.work(2, 0, 9, 5), 2);
        DUE.due("moved", t.work(3, 0, 99, 5), 3);
        for (int i = 4; i < 8; i++) {
            DUE.due("the same again", t.work(0, 0, 9, 0), i);
        }
        DUE.refused(t, "work", -5, 0, 0, 9, 0);
        DUE.refused(t, "work", -3, 0, 55, 9, 0);
        DUE.refused(t, "work", -2, 2, 5, 9, 0);
        DUE.refused(t, "work", -1, 5, 5, 9, 0);
        DUE.due("works", t.count(3), 8);
    }

    private static void promise28Drop() {
        TowerFoot t = new TowerFoot();
        DUE.refused(t, "drop", -2, 0);
        for (int i = 0; i < 4; i++) {
            t.work(0, i, 1, 10 + i);
        }
        DUE.refused(t, "drop", -2, 4);
        DUE.refused(t, "drop", -2, -1);
        DUE.refused(t, "drop", -2, MIN);
        DUE.refused(t, "drop", -2, MAX);
        DUE.due("drop the second", t.drop(1), 3);
        DUE.due("status", t.status(), 0);
        DUE.due("the third moved up", t.done(2, 3), 12);
        DUE.due("the last moved up", t.done(4, 3), 13);
        DUE.due("its cell is free", t.tower(1, 0, 1, 1, 1), 0);
        DUE.due("drop the last", t.drop(2), 2);
        DUE.due("drop the first", t.drop(0), 1);
        DUE.due("left", t.done(1, 3), 12);
        DUE.due("drop it", t.drop(0), 0);
    }

    private static void promise29Sorts() {
        // the told QUICK is what a WORK did, in tens of a hundred HOURS
        TowerFoot t = Calls.withLaw("quick 100+trees*100;quick 100+screen*100 if x=5");
        t.put(30, 2, 1);
        t.put(65, 2, 1);
        t.put(30, 0, 7);
        t.put(55, 1, 5);
        t.line(1, 0, 59);
        t.hours(0, 9, 10);
        t.hours(0, 6, 10);
        DUE.due("without: 7 trees, screen 5", t.over(-1), 10);
        t.work(0, 30, 1, 1);
        t.work(0, 30, 3, 2);
        t.work(1, 55, 4, 4);
        t.work(1, 55, 6, 8);
        DUE.due("8 trees: 9 times 9", t.done(1, 0), 10);
        t.line(1, 0, 80);
        DUE.due("7 trees are not above 80", t.done(0, 0), 0);
        DUE.due("8 trees are", t.done(1, 0), 10);
        t.line(1, 0, 89);
        DUE.due("9 trees at most: 9 times 9.99", t.done(2, 0), 10);
        DUE.due("and at 8 not", t.done(1, 0), 0);
        t.line(1, 0, 53);
        t.put(30, 2, 0);
        DUE.due("screen 5: 54", t.done(0, 0), 10);
        DUE.due("a lesser screen does nothing", t.done(4, 0), 10);
        t.line(1, 0, 54);
        DUE.due("screen 5: 54", t.done(0, 0), 0);
        DUE.due("a greater one: 63", t.done(8, 0), 10);
        DUE.due("coin", t.done(15, 3), 15);
        DUE.due("coin of none", t.done(0, 3), 0);
        DUE.due("nothing was done", t.of(55, 1), 5);
    }

    private static void promise29Order() {
        TowerFoot t = Calls.withLaw("quick high*10 if kind=2");
        t.tower(5, 5, 2, 1, 12);
        t.put(45, 2, 1);
        t.line(1, 0, 0);
        t.line(1, 1, 0);
        t.hours(0, 1, 100);
        t.work(2, 0, 9, 1);
        t.work(2, 0, 9, 1);
        DUE.due("12 high", t.over(-1), 100);
        t.line(1, 0, 1);
        DUE.due("12 high: above 1", t.over(-1), 100);
        DUE.due("3 high: not above 1", t.done(1, 0), 0);
        t.line(1, 0, 0);
        DUE.due("3 high: above 0", t.done(1, 0), 100);
        DUE.due("1 high at least: above 0", t.done(3, 0), 100);
        t.build(3);
        DUE.due("1 high", t.high(0, 1), 1);
        DUE.due("all of it", t.kind(46, 0, 2), 1);
        // uses move on in order of numbers
        t.put(0, 2, 1);
        t.put(1, 2, 2);
        t.work(3, 0, 1, 1);
        t.work(3, 1, 2, 1);
        t.work(3, 3, 2, 1);
        t.build(3);
        DUE.due("first was moved", t.of(0, 2), 0);
        DUE.due("and moved on", t.of(1, 2), 0);
        DUE.due("to there", t.of(2, 2), 1);
        DUE.due("none takes its place, too", t.build(1), 100);
        DUE.due("none there", t.of(2, 2), 0);
    }

    private static void promise29Hurt() {
        TowerFoot t = Calls.withLaw("quick 100+trees*10;quick 200 if y=9");
        t.hours(0, 5, 100);
        t.line(1, 0, 5);
        t.line(1, 1, 9999);
        t.line(2, 0, 12);
        t.put(30, 2, 1);
        t.put(50, 2, 1);
        t.put(70, 2, 2);
        t.put(80, 2, 0);
        t.work(0, 40, 3, 5);
        t.work(3, 70, 98, 5);
        t.work(3, 30, 99, 5);
        t.work(3, 50, 97, 5);
        DUE.due("none", t.done(0, 1), 0);
        DUE.due("lowest of none", t.done(0, 2), -1);
        DUE.due("trees up from seats", t.done(1, 1), 1);
        DUE.due("which", t.done(1, 2), 50);
        DUE.due("not bad by its line's hours", t.done(1, 0), 0);
        DUE.due("a walk moved", t.done(2, 1), 0);
        DUE.due("it was as quick there without", t.done(4, 1), 0);
        DUE.due("moved away from the trees", t.done(9, 1), 0);
        DUE.due("another stays", t.done(5, 2), 50);
        t.line(2, 0, 5);
        t.put(60, 2, 2);
        DUE.due("two", t.done(1, 1), 2);
        DUE.due("the lower", t.done(1, 2), 50);
        DUE.none(t, "done", Due.row(1, 4), Due.row(1, -1), Due.row(16, 2));
        t.put(0, 2, 1);
        t.work(0, 0, 1, 1);
        DUE.due("the first cell, too", t.done(17, 1), 3);
        DUE.due("the first cell", t.done(17, 2), 0);
    }

    private static void promise29None() {
        TowerFoot t = new TowerFoot();
        t.work(0, 0, 1, 7);
        t.work(0, 0, 1, 8);
        DUE.due("all", t.done(3, 3), 15);
        DUE.none(t, "done", Due.row(4, 0), Due.row(4, 3), Due.row(-1, 0), Due.row(0, -1),
                Due.row(0, 4), Due.row(MIN, 0), Due.row(MAX, 3), Due.row(256, 0));
    }

    private static void promise30Least() {
        TowerFoot t = Calls.withLaw("quick 300-trees*50");
        t.hours(0, 5, 100);
        t.put(50, 2, 1);
        t.line(1, 0, 10);
        DUE.due("no works: coin", t.least(0), 0);
        DUE.due("no works: which", t.least(1), 0);
        DUE.due("no works: over", t.least(2), 100);
        t.work(0, 50, 1, 30);
        t.work(0, 50, 2, 50);
        t.work(0, 40, 1, 19);
        t.work(0, 99, 9, 0);
        // 200 or less is within the line: two trees at least
        DUE.due("coin", t.least(0), 49);
        DUE.due("which", t.least(1), 5);
        DUE.due("over", t.least(2), 0);
        t.drop(2);
        DUE.due("coin of the rest", t.least(0), 50);
        DUE.due("which of the rest", t.least(1), 2);
        t.drop(1);
        DUE.due("one tree does nothing", t.least(0), 0);
        DUE.due("which then", t.least(1), 0);
        DUE.due("over then", t.least(2), 100);
        t.hours(0, 4, 7);
        DUE.due("it makes one pace less", t.least(0), 30);
        DUE.due("which then", t.least(1), 1);
        DUE.due("over then", t.least(2), 100);
        DUE.none(t, "least", Due.row(-1), Due.row(3), Due.row(MIN), Due.row(MAX));
    }

    private static void promise30Alike() {
        TowerFoot t = Calls.withLaw("quick 300-trees*50");
        t.hours(0, 5, 100);
        t.put(50, 2, 1);
        t.line(1, 0, 10);
        t.work(0, 50, 1, 20);
        t.work(0, 50, 1, 20);
        t.work(0, 50, 1, 20);
        t.work(0, 40, 9, 40);
        DUE.due("the lowest of alike ones", t.least(1), 3);
        DUE.due("coin", t.least(0), 40);
        t.drop(0);
        t.drop(0);
        DUE.due("the lowest of alike ones", t.least(1), 2);
        t.put(51, 2, 2);
        t.line(2, 0, 0);
        DUE.due("none can be within: over", t.least(2), 100);
        DUE.due("none can be within: which", t.least(1), 2);
        t.work(0, 50, 2, 40);
        DUE.due("the lowest of alike ones", t.least(1), 2);
        t.work(0, 50, 2, 39);
        DUE.due("then coin", t.least(1), 8);
    }

    private static void promise31Build() {
        TowerFoot t = Calls.withLaw("quick 300-trees*50");
        t.hours(0, 5, 100);
        t.put(50, 2, 1);
        t.line(1, 0, 10);
        t.work(0, 50, 1, 1);
        t.work(1, 9, 5, 2);
        t.work(0, 40, 1, 4);
        t.work(3, 50, 51, 8);
        DUE.due("none", t.build(0), 100);
        DUE.due("works stay", t.count(3), 4);
        DUE.due("two", t.build(5), 0);
        DUE.due("status", t.status(), 0);
        DUE.due("two are left", t.count(3), 2);
        DUE.due("coin of the first", t.done(1, 3), 2);
        DUE.due("coin of the second", t.done(2, 3), 8);
        DUE.due("trees", t.of(50, 0), 1);
        DUE.due("trees", t.of(40, 0), 1);
        DUE.due("no screen", t.of(9, 1), 0);
        DUE.due("the rest", t.build(3), 100);
        DUE.due("screen", t.of(9, 1), 5);
        DUE.due("use", t.of(51, 2), 1);
        DUE.due("none left", t.count(3), 0);
        DUE.due("their cells are free", t.tower(0, 4, 1, 1, 1), 0);
    }

    private static void promise31Refused() {
        TowerFoot t = new TowerFoot();
        DUE.refused(t, "build", -1, 1);
        DUE.refused(t, "build", -1, -1);
        DUE.refused(t, "build", -1, MIN);
        t.work(0, 0, 1, 0);
        DUE.refused(t, "build", -1, 2);
        DUE.refused(t, "build", -1, 3);
        DUE.refused(t, "build", -1, MAX);
        DUE.due("none done", t.of(0, 0), 0);
        DUE.due("it stays", t.count(3), 1);
        for (int i = 1; i < 8; i++) {
            t.work(0, i, 1, 0);
        }
        DUE.refused(t, "build", -1, 256);
        DUE.due("all of eight", t.build(255), 0);
        DUE.due("none left", t.count(3), 0);
    }
}
