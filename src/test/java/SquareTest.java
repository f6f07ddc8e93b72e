/** Promises 1 to 8: a new object, TOWERS, what is put in CELLS, LINES and HOURS. */
public final class SquareTest {
    private static final Due DUE = new Due("SquareTest");
    private static final int MIN = Integer.MIN_VALUE;
    private static final int MAX = Integer.MAX_VALUE;

    public static void main(String[] args) {
        promise1New();
        promise2Tower();
        promise2Lost();
        promise2Order();
        promise3High();
        promise4At();
        promise5Put();
        promise6Of();
        promise7Line();
        promise8Hours();
        DUE.end();
    }

    private static void promise1New() {
        TowerFoot t = new TowerFoot();
        int[] counts = {0, 100, 0, 0, 0, 0, 0, 0, 0, 0, 0, 0, -1};
        for (int i = 0; i < counts.length; i++) {
            DUE.due("new count(" + i + ")", t.count(i), counts[i]);
        }
        for (int c = 0; c < 100; c += 9) {
            DUE.due("new at", t.at(c), -1);
            for (int what = 0; what < 3; what++) {
                DUE.due("new of", t.of(c, what), 0);
            }
            for (int way = 0; way < 4; way++) {
                DUE.due("new kind", t.kind(c, way, 0), 0);
                DUE.due("new QUICK", t.kind(c, way, 6), 100);
            }
        }
        for (int use = 1; use <= 3; use++) {
            DUE.due("new line pace", t.line(use, 0, 5), 99);
            DUE.due("new line hours", t.line(use, 1, 5), 0);
        }
        for (int i = 0; i < 40; i++) {
            DUE.due("new hours", t.hours(i / 10, i % 10, 0), 0);
        }
        DUE.due("new over", t.over(-1), 0);
        DUE.due("new bad", t.bad(-1), 0);
        DUE.due("new torn", t.torn(), 0);
        DUE.due("new fault", t.fault(), -1);
        DUE.due("new status", new TowerFoot().status(), 0);
        DUE.due("new drawn", t.drawn(0, 0), -1);
        DUE.due("new back", t.back(0), -2);
    }

    private static void promise2Tower() {
        TowerFoot t = new TowerFoot();
        DUE.due("tower at the edge", t.tower(5, 5, 5, 5, 40), 0);
        DUE.due("tower in a corner", t.tower(0, 0, 1, 1, 1), 1);
        DUE.due("tower wide", t.tower(3, 0, 2, 1, 7), 2);
        DUE.due("at its first", t.at(3), 2);
        DUE.due("at its last", t.at(4), 2);
        DUE.due("at beyond", t.at(5), -1);
        DUE.due("at below", t.at(13), -1);
        DUE.due("tower deep", t.tower(0, 2, 1, 3, 7), 3);
        DUE.due("at its last", t.at(40), 3);
        DUE.due("at beyond", t.at(50), -1);
        DUE.due("ground", t.count(1), 100 - 25 - 1 - 2 - 3);
        int[][] wrong = {{-1, 0, 1, 1, 1}, {10, 0, 1, 1, 1}, {0, -1, 1, 1, 1}, {0, 10, 1, 1, 1},
            {1, 1, 0, 1, 1}, {1, 1, 6, 1, 1}, {1, 1, 1, 0, 1}, {1, 1, 1, 6, 1}, {1, 1, 1, 1, 0},
            {1, 1, 1, 1, 41}, {9, 1, 2, 1, 1}, {1, 9, 1, 2, 1}, {6, 1, 5, 1, 1}, {MAX, 1, 1, 1, 1},
            {MIN, 1, 1, 1, 1}, {1, MAX, 1, 1, 1}, {1, 1, MAX, 1, 1}, {1, 1, 1, MAX, 1},
            {1, 1, 1, 1, MIN}};
        for (int[] a : wrong) {
            DUE.refused(t, "tower", -1, a);
        }
        DUE.refused(t, "tower", -3, 4, 4, 2, 2, 1);
        DUE.refused(t, "tower", -3, 0, 0, 1, 1, 1);
        DUE.due("towers", t.count(0), 4);
    }

    private static void promise2Lost() {
        TowerFoot t = new TowerFoot();
        t.put(44, 0, 3);
        t.put(44, 1, 4);
        t.put(44, 2, 2);
        t.image(0);
        t.tower(4, 4, 1, 1, 5);
        DUE.due("trees under a tower", t.of(44, 0), -1);
        DUE.due("trees seen", t.kind(64, 0, 3), 0);
        DUE.due("screen seen", t.kind(64, 0, 4), 0);
        t.hours(0, 9, 10);
        t.line(2, 0, 0);
        DUE.due("no use under a tower", t.over(-1), 0);
        t.back(0);
        DUE.due("trees again", t.of(44, 0), 3);
    }

    private static void promise2Order() {
        TowerFoot t = new TowerFoot();
        t.place(1);
        t.work(0, 3, 1, 1);
        t.work(1, 5, 1, 1);
        t.work(3, 7, 9, 1);
        for (int x = 1; x < 10; x += 2) {
            DUE.refused(t, "tower", -3, x, 0, 1, 1, 1);
        }
        DUE.due("beside them", t.tower(0, 0, 1, 1, 1), 0);
        DUE.due("between them", t.tower(2, 0, 1, 1, 1), 1);
        t.work(2, 0, 1, 1);
        for (int i = 2; i < 6; i++) {
            DUE.due("tower " + i, t.tower(i, 5, 1, 1, 9), i);
        }
        DUE.refused(t, "tower", -5, 9, 9, 1, 1, 1);
        DUE.refused(t, "tower", -3, 2, 5, 1, 1, 1);
        DUE.refused(t, "tower", -1, 2, 5, 1, 1, 0);
        t.drop(0);
        DUE.refused(t, "tower", -5, 3, 0, 1, 1, 1);
        DUE.due("towers", t.count(0), 6);
    }

    private static void promise3High() {
        TowerFoot t = new TowerFoot();
        t.tower(4, 4, 2, 1, 20);
        DUE.due("high", t.high(0, 40), 20);
        DUE.due("status", t.status(), 0);
        DUE.due("high again", t.high(0, 1), 40);
        DUE.due("all of it", t.kind(35, 0, 2), 1);
        DUE.refused(t, "high", -1, 0, 0);
        DUE.refused(t, "high", -1, 0, 41);
        DUE.refused(t, "high", -1, 3, 41);
        DUE.refused(t, "high", -2, 1, 5);
        DUE.refused(t, "high", -2, 6, 5);
        DUE.refused(t, "high", -2, MAX, 5);
        DUE.refused(t, "high", -2, -1, 5);
        DUE.due("as it was", t.high(0, 1), 1);
    }

    private static void promise4At() {
        TowerFoot t = new TowerFoot();
        t.tower(8, 8, 2, 2, 1);
        t.tower(0, 9, 1, 1, 1);
        DUE.due("at 99", t.at(99), 0);
        DUE.due("at 88", t.at(88), 0);
        DUE.due("at 90", t.at(90), 1);
        DUE.none(t, "at", Due.row(98 - 11), Due.row(-1), Due.row(100), Due.row(MIN), Due.row(MAX));
    }

    private static void promise5Put() {
        TowerFoot t = new TowerFoot();
        DUE.due("trees", t.put(0, 0, 9), 0);
        DUE.due("trees again", t.put(0, 0, 0), 9);
        DUE.due("screen", t.put(99, 1, 9), 0);
        DUE.due("screen again", t.put(99, 1, 2), 9);
        DUE.due("use", t.put(5, 2, 3), 0);
        DUE.due("use again", t.put(5, 2, 1), 3);
        DUE.due("apart", t.of(5, 0), 0);
        int[][] wrong = {{-1, 0, 1}, {100, 0, 1}, {0, -1, 1}, {0, 3, 1}, {0, 0, -1}, {0, 0, 10},
            {0, 1, 10}, {0, 1, -1}, {0, 2, 4}, {0, 2, -1}, {MAX, 0, 0}, {0, MIN, 0}, {0, 0, MAX}};
        for (int[] a : wrong) {
            DUE.refused(t, "put", -1, a);
        }
        t.tower(5, 5, 1, 1, 1);
        DUE.refused(t, "put", -3, 55, 0, 1);
        DUE.refused(t, "put", -1, 55, 0, 10);
    }

    private static void promise6Of() {
        TowerFoot t = new TowerFoot();
        t.tower(5, 5, 1, 1, 1);
        t.put(7, 0, 4);
        t.put(7, 1, 5);
        t.put(7, 2, 2);
        DUE.due("trees", t.of(7, 0), 4);
        DUE.due("screen", t.of(7, 1), 5);
        DUE.due("use", t.of(7, 2), 2);
        DUE.none(t, "of", Due.row(55, 0), Due.row(-1, 0), Due.row(100, 0), Due.row(7, 3),
                Due.row(7, -1), Due.row(MAX, MIN));
    }

    private static void promise7Line() {
        TowerFoot t = new TowerFoot();
        DUE.due("pace", t.line(3, 0, 0), 99);
        DUE.due("pace again", t.line(3, 0, 99), 0);
        DUE.due("hours", t.line(3, 1, 9999), 0);
        DUE.due("hours again", t.line(3, 1, 1), 9999);
        DUE.due("another's", t.line(2, 1, 1), 0);
        int[][] wrong = {{0, 0, 1}, {4, 0, 1}, {1, -1, 1}, {1, 2, 1}, {1, 0, -1}, {1, 0, 100},
            {1, 1, -1}, {1, 1, 10000}, {MIN, 0, 0}, {MAX, 0, 0}};
        for (int[] a : wrong) {
            DUE.refused(t, "line", -1, a);
        }
    }

    private static void promise8Hours() {
        TowerFoot t = new TowerFoot();
        DUE.due("hours", t.hours(3, 9, 999), 0);
        DUE.due("hours again", t.hours(3, 9, 5), 999);
        DUE.due("others", t.hours(0, 0, 7), 0);
        DUE.due("in all", t.count(5), 12);
        int[][] wrong = {{-1, 0, 1}, {4, 0, 1}, {0, -1, 1}, {0, 10, 1}, {0, 0, -1}, {0, 0, 1000},
            {MAX, 0, 1}, {0, MIN, 1}, {0, 0, MAX}};
        for (int[] a : wrong) {
            DUE.refused(t, "hours", -1, a);
        }
        DUE.due("in all still", t.count(5), 12);
    }
}
