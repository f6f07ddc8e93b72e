/** Promises 21 to 25: what a TOWER does, its SHARE, one more TOWER, a SCREEN's curve. */
public final class TowersTest {
    private static final Due DUE = new Due("TowersTest");
    private static final int MIN = Integer.MIN_VALUE;
    private static final int MAX = Integer.MAX_VALUE;

    public static void main(String[] args) {
        promise21Does();
        promise22Share();
        promise22Known();
        promise22Six();
        promise23Ahead();
        promise24Site();
        promise24Nowhere();
        promise25Curve();
        DUE.end();
    }

    /** A door at 45 that is bad by more than pace 5 in 100 HOURS of pace 5 from the north. */
    private static TowerFoot door() {
        TowerFoot t = new TowerFoot();
        t.put(45, 2, 3);
        t.line(3, 0, 5);
        t.hours(0, 5, 100);
        return t;
    }

    private static void promise21Does() {
        TowerFoot t = door();
        DUE.due("none", t.does(0), -1000000000);
        t.tower(4, 4, 1, 1, 10);
        DUE.due("corner", t.does(0), 100);
        t.tower(6, 4, 1, 1, 10);
        DUE.due("of a passage, west", t.does(0), 0);
        DUE.due("of a passage, east", t.does(1), 0);
        for (int tower : new int[] {2, 6, -1, MIN, MAX}) {
            DUE.due("no such", t.does(tower), -1000000000);
        }
        t = new TowerFoot();
        t.put(45, 2, 3);
        t.line(3, 0, 4);
        t.hours(0, 5, 100);
        t.tower(5, 3, 1, 1, 10);
        DUE.due("a lee helps", t.does(0), -100);
        DUE.due("not refused", t.status(), 0);
    }

    private static void promise22Share() {
        TowerFoot t = door();
        DUE.due("none", t.share(0), -1000000000000L);
        t.tower(4, 4, 1, 1, 10);
        DUE.due("alone", t.share(0), 72000);
        t.tower(6, 4, 1, 1, 10);
        DUE.due("half each, west", t.share(0), 36000);
        DUE.due("half each, east", t.share(1), 36000);
        t.tower(0, 0, 1, 1, 10);
        DUE.due("far off", t.share(2), 0);
        DUE.due("still half", t.share(0), 36000);
        t.tower(5, 5, 1, 1, 10);
        // three of which each alone makes it bad: a third each
        DUE.due("a third", t.share(0), 24000);
        DUE.due("a third", t.share(3), 24000);
        for (int tower : new int[] {4, 6, -1, MIN, MAX}) {
            DUE.due("no such", t.share(tower), -1000000000000L);
        }
    }

    private static void promise22Known() {
        TowerFoot t = door();
        t.tower(4, 4, 1, 1, 10);
        DUE.due("share", t.share(0), 72000);
        t.hours(0, 5, 50);
        DUE.due("share of another year", t.share(0), 36000);
        t.line(3, 1, 10);
        DUE.due("share by another line", t.share(0), 40 * 720);
        t.put(45, 2, 0);
        DUE.due("share without use", t.share(0), 0);
        t.put(45, 2, 3);
        t.image(0);
        Calls.feedText(t, "quick 300");
        t.law();
        t.force(0);
        DUE.due("share by a law", t.share(0), 0);
        t.back(0);
        DUE.due("share back", t.share(0), 40 * 720);
        t.feed(0x00000000, 0x00000000, 0x00000046, 0, 0);
        t.end(12);
        t.row();
        DUE.due("share by a row", t.share(0), 60 * 720);
    }

    private static void promise22Six() {
        TowerFoot t = door();
        t.tower(4, 4, 1, 1, 10);
        t.tower(6, 4, 1, 1, 10);
        t.tower(5, 5, 1, 1, 10);
        t.tower(0, 0, 1, 1, 10);
        t.tower(5, 1, 1, 1, 40);
        t.tower(9, 9, 1, 1, 40);
        long sum = 0;
        for (int i = 0; i < 6; i++) {
            sum += t.share(i);
        }
        DUE.due("all shares are what all do", sum, 100 * 720);
        DUE.due("the far one", t.share(5), 0);
        // up from the door tower 4 takes the front's rise, so that it is not bad then
        DUE.due("the front's", t.share(2), countOut(2));
        DUE.due("the lee's", t.share(4), countOut(3));
    }

    private static boolean isBad(boolean west, boolean east, boolean front, boolean lee) {
        if (west && east) {
            return true;
        }
        if (front) {
            return !lee;
        }
        return west || east;
    }

    private static long countOut(int which) {
        int[][] orders = new int[24][];
        int n = 0;
        for (int i = 0; i < 256; i++) {
            int[] o = {i & 3, i >> 2 & 3, i >> 4 & 3, i >> 6 & 3};
            if ((1 << o[0] | 1 << o[1] | 1 << o[2] | 1 << o[3]) == 15) {
                orders[n++] = o;
            }
        }
        long sum = 0;
        for (int[] o : orders) {
            boolean[] stands = new boolean[4];
            for (int tower : o) {
                boolean before = isBad(stands[0], stands[1], stands[2], stands[3]);
                stands[tower] = true;
                boolean then = isBad(stands[0], stands[1], stands[2], stands[3]);
                if (tower == which) {
                    sum += (then ? 100 : 0) - (before ? 100 : 0);
                }
            }
        }
        return sum * 720 / 24;
    }

    private static void promise23Ahead() {
        TowerFoot t = door();
        DUE.due("far off", t.ahead(0, 0, 1, 1, 10), 0);
        DUE.due("a corner", t.ahead(4, 4, 1, 1, 10), 100);
        DUE.due("nothing was built", t.count(0), 0);
        DUE.due("nor refused", t.status(), 0);
        DUE.due("on the door itself", t.ahead(5, 4, 1, 1, 10), 0);
        DUE.due("its use stays", t.of(45, 2), 3);
        DUE.due("a front", t.ahead(5, 5, 1, 1, 1), 100);
        t.tower(0, 0, 1, 1, 1);
        t.place(1);
        t.work(0, 2, 1, 1);
        DUE.none(t, "ahead", Due.row(0, 0, 1, 1, 1), Due.row(1, 0, 1, 1, 1), Due.row(2, 0, 1, 1, 1),
                Due.row(-1, 0, 1, 1, 1), Due.row(9, 9, 2, 1, 1), Due.row(5, 5, 6, 1, 1),
                Due.row(5, 5, 1, 0, 1), Due.row(5, 5, 1, 1, 41), Due.row(MAX, MAX, MAX, MAX, MAX),
                Due.row(MIN, MIN, MIN, MIN, MIN));
        for (int i = 1; i < 6; i++) {
            t.tower(i, 9, 1, 1, 1);
        }
        DUE.none(t, "ahead", Due.row(9, 0, 1, 1, 1));
    }

    private static void promise24Site() {
        TowerFoot t = door();
        DUE.due("anywhere", t.site(1, 1, 9, 0), 0);
        DUE.due("over", t.site(1, 1, 9, 1), 0);
        DUE.due("places", t.site(1, 1, 9, 2), 100);
        DUE.due("wide", t.site(2, 1, 9, 2), 90);
        DUE.due("wide and deep", t.site(5, 4, 9, 2), 6 * 7);
        for (int wide = 1; wide <= 5; wide++) {
            for (int deep = 1; deep <= 5; deep++) {
                DUE.due("any shape", t.site(wide, deep, 10 - deep, 2), (11 - wide) * (11 - deep));
                DUE.due("another", t.site(1, 0, 9, 2), 0);
            }
        }
        t.tower(4, 4, 1, 1, 10);
        t.tower(0, 0, 1, 1, 10);
        DUE.due("bad now: over it is least", t.site(1, 1, 9, 1), 0);
        // up from the door a rise is left; next up from the corner's tower it is no corner more
        DUE.due("next up from the corner's tower", t.site(1, 1, 9, 0), 34);
        t.place(34);
        DUE.due("else on the door", t.site(1, 1, 9, 0), 45);
        t.work(0, 45, 1, 1);
        DUE.due("else nowhere that helps", t.site(1, 1, 9, 1), 100);
        DUE.due("so the first", t.site(1, 1, 9, 0), 1);
    }

    private static void promise24Nowhere() {
        TowerFoot t = new TowerFoot();
        t.tower(5, 5, 1, 1, 1);
        t.tower(0, 0, 1, 1, 1);
        t.tower(9, 9, 1, 1, 1);
        t.tower(4, 0, 1, 5, 1);
        t.tower(9, 0, 1, 5, 1);
        DUE.due("places", t.site(5, 5, 1, 2), 1);
        DUE.due("where", t.site(5, 5, 1, 0), 50);
        t.place(50);
        DUE.due("places with one", t.site(5, 5, 1, 2), 0);
        DUE.none(t, "site", Due.row(5, 5, 1, 0), Due.row(5, 5, 1, 1), Due.row(1, 1, 1, 3),
                Due.row(1, 1, 1, -1), Due.row(6, 1, 1, 0), Due.row(1, 0, 1, 1),
                Due.row(1, 1, 41, 0), Due.row(MAX, MAX, MAX, 0), Due.row(MIN, MIN, MIN, 1),
                Due.row(1, 1, 1, MIN));
        DUE.due("too wide for any place", t.site(6, 1, 1, 2), 0);
        t.tower(7, 7, 1, 1, 1);
        DUE.due("six towers", t.site(1, 1, 1, 2), 0);
        DUE.none(t, "site", Due.row(1, 1, 1, 0), Due.row(1, 1, 1, 1));
    }

    private static void promise25Curve() {
        TowerFoot t = new TowerFoot();
        Calls.feedText(t, "quick 100-10*screen+trees");
        t.law();
        t.force(0);
        t.put(55, 1, 9);
        t.put(45, 0, 3);
        for (int k = 1; k <= 5; k++) {
            DUE.due("down to the south", t.curve(45, 0, 4, k),
                    k == 1 ? 63 : k == 2 ? 13 : k <= 4 ? 10 : 100);
            DUE.due("west to east over 54", t.curve(54, 3, 4, k),
                    k == 1 ? 60 : k <= 4 ? 10 : 100);
        }
        DUE.due("0 takes it away", t.curve(55, 0, 0, 1), 103);
        DUE.due("it stays", t.of(55, 1), 9);
        t.tower(5, 8, 1, 1, 5);
        DUE.none(t, "curve", Due.row(55, 0, 4, 3), Due.row(85, 0, 4, 1), Due.row(95, 0, 4, 1),
                Due.row(45, 2, 4, 5), Due.row(0, 1, 4, 1), Due.row(9, 3, 4, 1),
                Due.row(-1, 0, 4, 1), Due.row(100, 0, 4, 1), Due.row(45, -1, 4, 1),
                Due.row(45, 4, 4, 1), Due.row(45, 0, -1, 1), Due.row(45, 0, 10, 1),
                Due.row(45, 0, 4, 0), Due.row(45, 0, 4, 6), Due.row(MAX, MIN, MAX, MIN));
        DUE.due("beyond it", t.curve(55, 0, 4, 4), 100);
        DUE.due("to the north", t.curve(55, 2, 4, 5), 100);
        DUE.due("to the west", t.curve(65, 1, 6, 3), 40);
        DUE.due("to the west, on the edge", t.curve(5, 1, 6, 5), 100);
        DUE.due("to the east, on the edge", t.curve(4, 3, 6, 5), 100);
        DUE.due("to the south, on the edge", t.curve(40, 0, 6, 5), 100);
        DUE.due("to the north, on the edge", t.curve(50, 2, 6, 5), 100);
    }
}
