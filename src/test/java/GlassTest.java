/** Promises 32 to 35: PLACES, GLASSES, SALT and the ODDS of a FALL. */
public final class GlassTest {
    private static final Due DUE = new Due("GlassTest");
    private static final int MIN = Integer.MIN_VALUE;
    private static final int MAX = Integer.MAX_VALUE;

    public static void main(String[] args) {
        promise32Place();
        promise33Glass();
        promise33Sets();
        promise34Salt();
        promise34Never();
        promise35Odds();
        promise35Whole();
        DUE.end();
    }

    private static void promise32Place() {
        TowerFoot t = new TowerFoot();
        t.tower(5, 5, 1, 1, 1);
        DUE.refused(t, "place", -1, -1);
        DUE.refused(t, "place", -1, 100);
        DUE.refused(t, "place", -1, MIN);
        DUE.refused(t, "place", -1, MAX);
        DUE.refused(t, "place", -3, 55);
        t.work(0, 0, 1, 1);
        for (int i = 0; i < 12; i++) {
            DUE.due("place", t.place(i), i);
        }
        DUE.due("status", t.status(), 0);
        DUE.refused(t, "place", -3, 11);
        DUE.refused(t, "place", -3, 55);
        DUE.refused(t, "place", -5, 12);
        DUE.refused(t, "place", -1, 100);
        DUE.due("places", t.count(4), 12);
    }

    /** Seats everywhere that are told, all bad. */
    private static TowerFoot bad(int... cells) {
        TowerFoot t = new TowerFoot();
        t.hours(0, 5, 1);
        t.line(1, 0, 1);
        for (int cell : cells) {
            t.put(cell, 2, 1);
        }
        return t;
    }

    private static void glass(String name, TowerFoot t, int... want) {
        for (int what = 0; what < 3; what++) {
            DUE.due("glass " + name + ", what " + what, t.glass(what), want[what]);
        }
    }

    private static void promise33Glass() {
        TowerFoot t = bad();
        glass("of nothing", t, 0, 0, 1);
        t.place(0);
        glass("of nothing", t, 0, 0, 1);
        t = bad(55);
        glass("without places", t, -1, -1, 0);
        t.place(51);
        t.place(33);
        t.place(95);
        glass("four away", t, -1, -1, 0);
        t.place(58);
        glass("three away", t, 1, 8, 1);
        t.place(34);
        glass("three away in both", t, 1, 8, 2);
        t.place(55);
        t.place(85);
        t.place(76);
        glass("more of them", t, 1, 8, 5);
        DUE.none(t, "glass", Due.row(-1), Due.row(3), Due.row(MIN), Due.row(MAX));
        t.line(1, 1, 1);
        glass("of none that is bad", t, 0, 0, 1);
    }

    private static void promise33Sets() {
        TowerFoot t = bad(0, 9, 90, 99, 55);
        int[] places = {3, 30, 96, 69, 53, 57, 12, 87};
        for (int cell : places) {
            t.place(cell);
        }
        // 0 by 3, 30 and 12; 9 by none
        glass("not all", t, -1, -1, 0);
        t.place(18);
        // 9: place 8; 90: places none but 60 ..
        t.place(81);
        // 0: bits 0, 1, 6; 9: 8; 90: 9; 99: 2, 3, 7; 55: 4, 5
        glass("five", t, 5, 1 + 4 + 16 + 256 + 512, 3 * 3 * 2);
        t.put(55, 2, 0);
        glass("four", t, 4, 1 + 4 + 256 + 512, 9);
        t = bad(11, 22, 33);
        t.place(11);
        t.place(33);
        t.place(22);
        glass("one that sees all", t, 1, 4, 1);
        int[] apart = {0, 4, 8, 22, 26, 40, 44, 48, 62, 66, 80, 84};
        t = bad(apart);
        for (int cell : apart) {
            t.place(cell);
        }
        glass("all twelve", t, 12, 4095, 1);
    }

    private static void promise34Salt() {
        TowerFoot t = new TowerFoot();
        t.tower(4, 4, 2, 2, 20);
        DUE.due("front, above 6", t.salt(34, 0, 6), 5);
        DUE.due("front, above 7", t.salt(34, 0, 7), 6);
        DUE.due("above 0", t.salt(34, 0, 0), 1);
        DUE.due("open, above 8", t.salt(0, 0, 8), 9);
        DUE.due("open, above 9", t.salt(0, 0, 9), -1);
        DUE.due("lee, above 3", t.salt(64, 0, 3), 8);
        DUE.due("lee, above 4", t.salt(64, 0, 4), -1);
        DUE.due("corner, above 15", t.salt(43, 0, 15), 9);
        DUE.due("corner, above 16", t.salt(43, 0, 16), -1);
        DUE.due("from all", t.salt(-1, 0, 3), 96);
        DUE.due("from all but lees", t.salt(-1, 0, 4), 90);
        DUE.due("from fronts and corners", t.salt(-1, 0, 9), 4);
        DUE.due("from corners", t.salt(-1, 0, 13), 2);
        DUE.due("from none", t.salt(-1, 0, 9999), 0);
        DUE.none(t, "salt", Due.row(44, 0, 0), Due.row(-2, 0, 0), Due.row(100, 0, 0),
                Due.row(0, -1, 0), Due.row(0, 4, 0), Due.row(0, 0, -1), Due.row(0, 0, 10000),
                Due.row(-1, 4, 0), Due.row(-1, -1, 0), Due.row(-1, 0, -1), Due.row(-1, 0, 10000),
                Due.row(MIN, MAX, MIN));
    }

    private static void promise34Never() {
        TowerFoot t = new TowerFoot();
        Calls.feedText(t, "quick x");
        t.law();
        t.force(0);
        DUE.due("still air", t.salt(0, 0, 0), -1);
        DUE.due("nearly still", t.salt(1, 0, 0), 1);
        DUE.due("all but ten", t.salt(-1, 2, 0), 90);
    }

    private static void promise35Odds() {
        TowerFoot t = new TowerFoot();
        t.tower(4, 4, 2, 2, 20);
        t.tower(0, 0, 1, 1, 5);
        for (int pace = 0; pace < 10; pace++) {
            t.hours(0, pace, 10 * pace);
            t.hours(1, pace, 999);
        }
        // the front: QUICK 140, without it 100; a fall at pace 5 is 7
        DUE.due("upper", t.odds(0, 34, 0, 5, 0), 11);
        DUE.due("lower", t.odds(0, 34, 0, 5, 1), 35);
        // at pace 9 it is 12.6: without it never
        DUE.due("upper of all", t.odds(0, 34, 0, 9, 0), 1);
        DUE.due("lower of all", t.odds(0, 34, 0, 9, 1), 1);
        // at pace 0 it is as much in any hour
        DUE.due("upper in still air", t.odds(0, 34, 0, 0, 0), 0);
        DUE.due("lower in still air", t.odds(0, 34, 0, 0, 1), 1);
        DUE.due("upper of another", t.odds(1, 34, 0, 5, 0), 0);
        DUE.due("lower of another", t.odds(1, 34, 0, 5, 1), 1);
        DUE.due("a lee made nothing", t.odds(0, 64, 0, 5, 0), 0);
        DUE.due("a lee made nothing", t.odds(0, 64, 0, 5, 1), 1);
        DUE.due("no such hours: upper", t.odds(0, 34, 3, 5, 0), 0);
        DUE.due("no such hours: lower", t.odds(0, 34, 3, 5, 1), 1);
        DUE.none(t, "odds", Due.row(2, 34, 0, 5, 0), Due.row(-1, 34, 0, 5, 0),
                Due.row(0, 44, 0, 5, 0), Due.row(0, -1, 0, 5, 0), Due.row(0, 100, 0, 5, 0),
                Due.row(0, 34, -1, 5, 0), Due.row(0, 34, 4, 5, 0), Due.row(0, 34, 0, -1, 0),
                Due.row(0, 34, 0, 10, 0), Due.row(0, 34, 0, 5, -1), Due.row(0, 34, 0, 5, 2),
                Due.row(MIN, MAX, MIN, MAX, 0), Due.row(1, 0, 0, 5, 1));
        DUE.due("the tower stands yet", t.at(44), 0);
    }

    private static void promise35Whole() {
        TowerFoot t = new TowerFoot();
        Calls.feedText(t, "quick 0 if kind=0;quick 50 if kind=2");
        t.law();
        t.force(0);
        t.tower(5, 5, 1, 1, 5);
        t.hours(0, 0, 4);
        t.hours(0, 8, 6);
        DUE.due("all at pace 1", t.odds(0, 45, 0, 1, 0), 1);
        DUE.due("all at pace 1", t.odds(0, 45, 0, 1, 1), 1);
        DUE.due("where it is 0: as much in any hour", t.odds(0, 0, 0, 7, 0), 0);
        DUE.due("where it is 0: as much in any hour", t.odds(0, 0, 0, 7, 1), 1);
        t.hours(0, 8, 0);
        DUE.due("none so quick", t.odds(0, 45, 0, 1, 0), 0);
        DUE.due("none so quick", t.odds(0, 45, 0, 1, 1), 1);
    }
}
