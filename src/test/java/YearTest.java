/** Promises 17 to 20, 26, 36 and 37: HOURS ABOVE, OVER, BAD CELLS, KINDS, seats and DAYS. */
public final class YearTest {
    private static final Due DUE = new Due("YearTest");
    private static final int MIN = Integer.MIN_VALUE;
    private static final int MAX = Integer.MAX_VALUE;

    public static void main(String[] args) {
        promise17Above();
        promise17Exactly();
        promise18Over();
        promise19Bad();
        promise20Kinds();
        promise26Seat();
        promise36Day();
        promise36Draws();
        promise37Drawn();
        DUE.end();
    }

    private static void promise17Above() {
        TowerFoot t = new TowerFoot();
        for (int way = 0; way < 4; way++) {
            for (int pace = 0; pace < 10; pace++) {
                t.hours(way, pace, 1 + way * 10 + pace);
            }
        }
        DUE.due("above 0", t.above(5, 0), 820 - 1 - 11 - 21 - 31);
        DUE.due("above 8", t.above(5, 8), 10 + 20 + 30 + 40);
        DUE.due("above 9", t.above(5, 9), 0);
        DUE.due("above 9999", t.above(5, 9999), 0);
        t.tower(4, 4, 2, 2, 20);
        // a LEE by way 0, open by 1, a FRONT of 140 by 2, a CORNER of 170 by 3
        DUE.due("by each way", t.above(64, 8), 20 + (27 + 28 + 29 + 30) + (36 + 37 + 38 + 39 + 40));
        DUE.none(t, "above", Due.row(44, 0), Due.row(-1, 0), Due.row(100, 0), Due.row(0, -1),
                Due.row(0, 10000), Due.row(MIN, MAX));
    }

    private static void promise17Exactly() {
        TowerFoot t = Calls.withLaw("quick 125");
        t.hours(2, 8, 5);
        DUE.due("8 times 1.25 is not above 10", t.above(0, 10), 0);
        DUE.due("but above 9", t.above(0, 9), 5);
        t = Calls.withLaw("quick 126");
        t.hours(2, 8, 5);
        DUE.due("8 times 1.26 is above 10", t.above(0, 10), 5);
        t = Calls.withLaw("quick 999");
        t.hours(2, 9, 5);
        DUE.due("89.91 is above 89", t.above(0, 89), 5);
        DUE.due("not above 90", t.above(0, 90), 0);
        t = Calls.withLaw("quick 0");
        t.hours(2, 9, 5);
        DUE.due("0 is not above 0", t.above(0, 0), 0);
        t = Calls.withLaw("quick 1");
        t.hours(2, 9, 5);
        t.hours(2, 0, 7);
        DUE.due("0.09 is above 0, still air is not", t.above(0, 0), 5);
    }

    private static void promise18Over() {
        TowerFoot t = new TowerFoot();
        t.tower(0, 0, 1, 1, 1);
        t.hours(1, 5, 100);
        t.hours(3, 7, 50);
        t.put(55, 2, 1);
        t.put(56, 2, 2);
        t.put(57, 2, 3);
        DUE.due("lines at first", t.over(-1), 0);
        t.line(1, 0, 4);
        t.line(1, 1, 149);
        DUE.due("by one", t.over(55), 1);
        t.line(1, 1, 150);
        DUE.due("just within", t.over(55), 0);
        t.line(1, 1, 151);
        DUE.due("well within", t.over(55), 0);
        t.line(1, 1, 0);
        t.line(2, 0, 5);
        t.line(3, 0, 7);
        DUE.due("of seats", t.over(55), 150);
        DUE.due("of a walk", t.over(56), 50);
        DUE.due("of a door", t.over(57), 0);
        DUE.due("of no use", t.over(58), 0);
        DUE.due("together", t.over(-1), 200);
        DUE.none(t, "over", Due.row(0), Due.row(100), Due.row(-2), Due.row(MIN), Due.row(MAX));
    }

    private static void promise19Bad() {
        TowerFoot t = Calls.withLaw("quick 100+x*20 if y=0");
        t.hours(0, 5, 100);
        t.hours(0, 4, 10);
        t.line(1, 0, 5);
        DUE.due("none", t.bad(-1), 0);
        DUE.none(t, "bad", Due.row(0));
        // x 0: 5, 4; x 1: 6, 4.8; x 2: 7, 5.6
        for (int cell : new int[] {0, 1, 2, 3, 50}) {
            t.put(cell, 2, 1);
        }
        DUE.due("how many", t.bad(-1), 3);
        DUE.due("worst", t.bad(0), 2);
        DUE.due("alike, higher", t.bad(1), 3);
        DUE.due("last", t.bad(2), 1);
        DUE.none(t, "bad", Due.row(3), Due.row(-2), Due.row(MAX), Due.row(MIN));
        t.line(1, 1, 99);
        DUE.due("by one hour", t.bad(2), 1);
        DUE.due("how many still", t.bad(-1), 3);
        t.line(1, 1, 100);
        DUE.due("fewer", t.bad(-1), 2);
        DUE.due("none of them", t.bad(2), -1);
    }

    private static void promise20Kinds() {
        TowerFoot t = new TowerFoot();
        t.tower(3, 4, 1, 2, 9);
        t.tower(5, 4, 1, 2, 9);
        for (int way = 0; way < 3; way += 2) {
            DUE.due("passages", t.kinds(1, way), 2);
            DUE.due("fronts", t.kinds(2, way), 2);
            DUE.due("corners", t.kinds(3, way), 2);
            DUE.due("lees", t.kinds(4, way), 6);
            DUE.due("open", t.kinds(0, way), 96 - 12);
        }
        // by way 1 the two of the gap are fronts of the west one, those beyond 5 fronts of it
        DUE.due("passages by way 1", t.kinds(1, 1), 0);
        DUE.due("fronts by way 1", t.kinds(2, 1), 4);
        DUE.due("corners by way 1", t.kinds(3, 1), 4);
        DUE.due("lees by way 1", t.kinds(4, 1), 6);
        DUE.due("open by way 1", t.kinds(0, 1), 96 - 14);
        DUE.none(t, "kinds", Due.row(-1, 0), Due.row(5, 0), Due.row(0, -1), Due.row(0, 4),
                Due.row(MIN, MAX));
    }

    private static void promise26Seat() {
        TowerFoot t = Calls.withLaw("quick 10*x+100 if y<5");
        t.tower(0, 9, 1, 1, 1);
        t.hours(0, 5, 10);
        t.line(2, 0, 5);
        t.line(3, 0, 6);
        // above 5: x 1 .. 9 of y 0 .. 4, the tower's front 80 and corner 91; above 6: x 3 .. 9
        DUE.due("first", t.seat(2, 0), 0);
        DUE.due("second", t.seat(2, 1), 10);
        DUE.due("sixth", t.seat(2, 5), 50);
        DUE.due("seventh", t.seat(2, 6), 51);
        DUE.due("the last of the calm ones", t.seat(2, 5 + 47 - 1), 99);
        DUE.due("the first of the others", t.seat(2, 5 + 47), 1);
        DUE.due("the last", t.seat(2, 98), 91);
        DUE.due("first of a door", t.seat(3, 0), 0);
        DUE.due("second of a door", t.seat(3, 1), 1);
        DUE.due("fourth of a door", t.seat(3, 3), 10);
        t.put(0, 2, 1);
        DUE.due("without those that have a use", t.seat(2, 0), 10);
        DUE.none(t, "seat", Due.row(2, 98), Due.row(2, -1), Due.row(0, 0), Due.row(4, 0),
                Due.row(MIN, 0), Due.row(1, MAX), Due.row(1, MIN));
    }

    private static void promise36Day() {
        TowerFoot t = new TowerFoot();
        DUE.refused(t, "day", -3, 0);
        DUE.refused(t, "day", -1, -1);
        DUE.refused(t, "day", -1, 1000001);
        DUE.none(t, "drawn", Due.row(0, 0));
        t.hours(1, 3, 10);
        DUE.refused(t, "day", -1, MIN);
        DUE.refused(t, "day", -1, MAX);
        DUE.due("no use", t.day(1000000), 0);
        DUE.due("status", t.status(), 0);
        t.put(50, 2, 2);
        t.line(2, 0, 3);
        DUE.due("not above", t.day(0), 0);
        t.line(2, 0, 2);
        DUE.due("above all day", t.day(0), 24);
        t.line(2, 1, 9999);
        DUE.due("whatever hours the line has", t.day(0), 24);
        t.put(50, 2, 0);
        t.put(0, 2, 2);
        t.hours(1, 3, 1);
        DUE.due("in the first cell, one hour a year", t.day(0), 24);
        t.hours(1, 3, 0);
        DUE.refused(t, "day", -3, 0);
        DUE.due("the latest stays", t.drawn(23, 1), 3);
    }

    private static void promise36Draws() {
        TowerFoot t = new TowerFoot();
        t.hours(0, 0, 3);
        t.hours(0, 4, 2);
        t.hours(2, 4, 1);
        t.hours(3, 9, 4);
        t.put(50, 2, 1);
        t.line(1, 0, 4);
        int[] slots = {0, 0, 0, 4, 4, 24, 39, 39, 39, 39};
        for (int seed : new int[] {0, 1, 77, 999999, 1000000}) {
            long s = seed;
            int quick = 0;
            int[] want = new int[24];
            for (int hour = 0; hour < 24; hour++) {
                s = (s * 1103 + 12345) % 1000003;
                want[hour] = slots[(int) (s % 10)];
                quick += want[hour] == 39 ? 1 : 0;
            }
            DUE.due("day " + seed, t.day(seed), quick);
            for (int hour = 0; hour < 24; hour++) {
                DUE.due("way of " + hour, t.drawn(hour, 0), want[hour] / 10);
                DUE.due("pace of " + hour, t.drawn(hour, 1), want[hour] % 10);
            }
        }
    }

    private static void promise37Drawn() {
        TowerFoot t = new TowerFoot();
        t.hours(3, 8, 1);
        t.image(0);
        t.day(9);
        DUE.due("way", t.drawn(0, 0), 3);
        DUE.due("pace", t.drawn(23, 1), 8);
        DUE.none(t, "drawn", Due.row(-1, 0), Due.row(24, 0), Due.row(0, -1), Due.row(0, 2),
                Due.row(MIN, MAX));
        t.hours(3, 8, 0);
        t.back(0);
        DUE.due("images don't keep the day", t.drawn(5, 1), 8);
        t.image(1);
        t.hours(2, 1, 5);
        t.hours(3, 8, 0);
        t.day(9);
        t.back(1);
        DUE.due("the latest stays", t.drawn(5, 0), 2);
    }
}
