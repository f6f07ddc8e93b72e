/** Promises 9 to 12: the TAPE and a ROW of HOURS. */
public final class TapeTest {
    private static final Due DUE = new Due("TapeTest");

    public static void main(String[] args) {
        promise9Feed();
        promise10End();
        promise11Row();
        promise11Ranges();
        promise12Torn();
        DUE.end();
    }

    private static void promise9Feed() {
        TowerFoot t = new TowerFoot();
        for (int i = 1; i <= 20; i++) {
            DUE.due("feed", t.feed(i, i, i, i, i), 20 * i);
        }
        DUE.none(t, "feed", Due.row(0, 0, 0, 0, 0), Due.row(-1, -1, -1, -1, -1));
        DUE.due("bytes", t.count(6), 400);
        t.end(381);
        DUE.none(t, "feed", Due.row(0, 0, 0, 0, 0));
        DUE.due("bytes", t.count(6), 381);
        t.end(380);
        DUE.due("feed the last", t.feed(0, 0, 0, 0, 0), 400);
    }

    private static void promise10End() {
        TowerFoot t = new TowerFoot();
        DUE.due("end(0) of none", t.end(0), 0);
        DUE.none(t, "end", Due.row(1));
        t.feed(0, 0, 0, 0, 0);
        DUE.none(t, "end", Due.row(21), Due.row(-1), Due.row(Integer.MIN_VALUE),
                Due.row(Integer.MAX_VALUE));
        DUE.due("end(20)", t.end(20), 20);
        DUE.due("end(7)", t.end(7), 7);
        DUE.due("bytes", t.count(6), 7);
        DUE.none(t, "end", Due.row(8));
        DUE.due("feed behind", t.feed(0, 0, 0, 0, 0), 27);
    }

    private static void promise11Row() {
        TowerFoot t = new TowerFoot();
        DUE.refused(t, "row", -6);
        t.hours(0, 2, 77);
        t.hours(3, 9, 8);
        t.feed(0x000103E7, 0x03E8FFFF, 0, 0, 0);
        t.end(4);
        DUE.due("row of two", t.row(), 1 + 999 + 77 + 8);
        DUE.due("status", t.status(), 0);
        DUE.due("tape", t.count(6), 0);
        DUE.due("first", t.hours(0, 0, 0), 1);
        DUE.due("second", t.hours(0, 1, 0), 999);
        DUE.due("left out", t.hours(0, 2, 0), 77);
        t.feed(0x03E8FFFF, 0x00000000, 0, 0, 0);
        t.end(5);
        DUE.due("row above 999", t.row(), 999 + 999 + 0 + 8);
        DUE.due("tape", t.count(6), 0);
        DUE.refused(t, "row", -6);
    }

    private static void promise11Ranges() {
        TowerFoot t = new TowerFoot();
        for (int i = 0; i < 5; i++) {
            int n = 10 * i;
            t.feed(n << 16 | n + 1, n + 2 << 16 | n + 3, n + 4 << 16 | n + 5, n + 6 << 16 | n + 7,
                    n + 8 << 16 | n + 9);
        }
        DUE.due("row of fifty", t.row(), 39 * 40 / 2);
        DUE.due("torn", t.torn(), 20);
        for (int i = 0; i < 40; i++) {
            DUE.due("its hours", t.hours(i / 10, i % 10, 0), i);
        }
    }

    private static void promise12Torn() {
        TowerFoot t = new TowerFoot();
        int[][] rows = {{1, 1}, {2, 0}, {7, 1}, {79, 1}, {80, 0}, {81, 1}, {82, 2}, {400, 320}};
        for (int[] r : rows) {
            for (int i = 0; i < 20; i++) {
                t.feed(1, 1, 1, 1, 1);
            }
            t.end(r[0]);
            t.row();
            DUE.due("torn of " + r[0], t.torn(), r[1]);
        }
        t.row();
        DUE.due("torn behind a refused row", t.torn(), 320);
        t.image(0);
        t.feed(0, 0, 0, 0, 0);
        t.end(1);
        DUE.due("row of one", t.row(), t.count(5));
        t.back(0);
        DUE.due("torn behind back", t.torn(), 1);
    }
}
