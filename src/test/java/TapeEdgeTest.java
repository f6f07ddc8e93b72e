/** The edges that promises 9 to 12 and Terms IV name: the TAPE, a ROW of HOURS, TORN bytes. */
public final class TapeEdgeTest {
    private static final Due DUE = new Due("TapeEdgeTest");
    private static final int MIN = Integer.MIN_VALUE;
    private static final int MAX = Integer.MAX_VALUE;

    public static void main(String[] args) {
        promise9FourBytesTheHighestFirst();
        promise9NoMoreThan400();
        promise9BehindTheTape();
        promise10End();
        promise10Empty();
        promise11TwoByTwo();
        promise11Above999();
        promise11FortyAtMost();
        promise11LeftOut();
        promise11TapeIsEmptyThen();
        promise11Refused();
        promise12Torn();
        promise12Latest();
        DUE.end();
    }

    private static Run bytes(int n) {
        Run run = Run.bare();
        for (int i = 0; i < (n + 19) / 20; i++) {
            run = run.then("feed", 1, 1, 1, 1, 1);
        }
        return run.then("end", n);
    }

    /** HOURS of the YEAR, one by one. */
    private static void year(String name, Run run, int... want) {
        TowerFoot t = run.play();
        for (int i = 0; i < 40; i++) {
            DUE.due(name + ": WAY " + i / 10 + ", pace " + i % 10, t.hours(i / 10, i % 10, 0),
                    i < want.length ? want[i] : 0);
        }
    }

    private static void promise9FourBytesTheHighestFirst() {
        Run run = Run.bare().then("feed", 0x00010203, 0x01230045, 0x000003E7, 0x02000101, 0x00FF0100);
        year("the highest first", run.then("row"),
                1, 0x203, 0x123, 0x45, 0, 999, 0x200, 0x101, 0xFF, 0x100);
        Run below0 = Run.bare().then("feed", MIN, -1, 0x000000FF, -256, 0x0080007F);
        year("bytes are 0 .. 255", below0.then("row"), 999, 0, 999, 999, 0, 255, 999, 999, 128, 127);
        String text = "quick 123+45-6;quick";
        TowerFoot t = new TowerFoot();
        t.feed(0x71756963, 0x6B203132, 0x332B3435, 0x2D363B71, 0x7569636B);
        t.end(14);
        DUE.due("as letters: " + text, t.law(), 0);
        t.force(0);
        DUE.due("as letters: " + text, t.kind(0, 0, 6), 162);
    }

    private static void promise9NoMoreThan400() {
        Run run = Run.bare();
        for (int i = 1; i <= 20; i++) {
            new Edge(DUE, run).of("how many it has").changes(20 * i, "feed", i, i, i, i, i);
            run = run.then("feed", i, i, i, i, i);
            DUE.due("bytes", run.play().count(6), 20 * i);
        }
        new Edge(DUE, run).of("NONE, if there would be more than 400")
                .none("feed", Due.row(0, 0, 0, 0, 0), Due.row(-1, -1, -1, -1, -1));
        for (int n : new int[] {399, 390, 382, 381}) {
            new Edge(DUE, run.then("end", n)).of("at " + n)
                    .none("feed", Due.row(0, 0, 0, 0, 0), Due.row(MAX, MIN, 7, 8, 9));
        }
        for (int n : new int[] {380, 379, 361}) {
            Run cut = run.then("end", n);
            new Edge(DUE, cut).of("at " + n).changes(n + 20, "feed", 7, 7, 7, 7, 7);
        }
    }

    private static void promise9BehindTheTape() {
        Run run = Run.bare().then("feed", 0x00010002, 0x00030004, 0, 0, 0).then("end", 6)
                .then("feed", 0x00060007, 0x00080009, 0x000A0000, 0, 0);
        DUE.due("behind what is there", run.play().count(6), 26);
        year("behind what is there", run.then("row"), 1, 2, 3, 6, 7, 8, 9, 10);
        Run odd = Run.bare().then("feed", 0x00010000, 0, 0, 0, 0).then("end", 3)
                .then("feed", 0x05000600, 0, 0, 0, 0);
        year("behind a single byte", odd.then("row"), 1, 5, 6);
        Run again = Run.bare().then("feed", 0x00110012, 0x00130014, 0x00150016, 0, 0).then("end", 2)
                .then("feed", 0, 0, 0, 0, 0);
        year("nothing of what was cut off", again.then("row"), 0x11);
    }

    private static void promise10End() {
        Run run = bytes(27);
        Edge edge = new Edge(DUE, run).of("NONE, if it has not so many, or n is below 0");
        edge.none("end", Due.row(28), Due.row(29), Due.row(400), Due.row(401), Due.row(-1),
                Due.row(-2), Due.row(-27), Due.row(MIN), Due.row(MAX));
        edge.of("its first n bytes alone: n");
        for (int n : new int[] {0, 1, 26, 27}) {
            edge.changes(n, "end", n);
            DUE.due("so many", run.then("end", n).play().count(6), n);
            DUE.due("no more than that", run.then("end", n).play().end(n + 1), -1);
        }
        Run first = Run.bare().then("feed", 0x00010002, 0x00030004, 0, 0, 0).then("end", 4);
        year("the first ones", first.then("row"), 1, 2);
        Run full = bytes(400);
        new Edge(DUE, full).of("a full TAPE").none("end", Due.row(401));
        DUE.due("a full TAPE's end", full.play().end(400), 400);
        DUE.due("a full TAPE's end", full.play().end(399), 399);
    }

    private static void promise10Empty() {
        Edge bare = new Edge(DUE, Run.bare()).of("an empty TAPE");
        bare.asked(0, "end", 0);
        bare.none("end", Due.row(1), Due.row(-1));
    }

    private static void promise11TwoByTwo() {
        for (int n = 1; n <= 82; n++) {
            TowerFoot t = bytes(n).play();
            // each number is 0 and 1 byte by byte: 0, 1, 0, 1
            int ones = Math.min(n / 4, 20);
            DUE.due("row of " + n, t.row(), ones);
            DUE.due("status", t.status(), 0);
            DUE.due("HOURS in all", t.count(5), ones);
        }
        Run last = Run.bare();
        for (int i = 0; i < 4; i++) {
            last = last.then("feed", 0, 0, 0, 0, i == 3 ? 0x00080009 : 0);
        }
        TowerFoot t = last.then("row").play();
        DUE.due("the last but one", t.hours(3, 8, 0), 8);
        DUE.due("the last", t.hours(3, 9, 0), 9);
        t = last.then("end", 79).then("row").play();
        DUE.due("the last but one", t.hours(3, 8, 0), 8);
        DUE.due("the last was single", t.hours(3, 9, 0), 0);
        t = last.then("end", 78).then("row").play();
        DUE.due("the last but one", t.hours(3, 8, 0), 8);
        t = last.then("end", 77).then("row").play();
        DUE.due("the last but one was single", t.hours(3, 8, 0), 0);
    }

    private static void promise11Above999() {
        int[][] numbers = {{998, 998}, {999, 999}, {1000, 999}, {1001, 999}, {0x0400, 999},
            {0x7FFF, 999}, {0x8000, 999}, {0xFFFF, 999}, {0x0300, 768}, {0x00FF, 255}, {0, 0}};
        for (int[] n : numbers) {
            Run run = Run.bare().then("feed", n[0] << 16 | n[0], 0, 0, 0, 0).then("end", 4);
            DUE.due("row of twice " + n[0], run.play().row(), 2 * n[1]);
            year("above 999: 999", run.then("row"), n[1], n[1]);
        }
    }

    private static void promise11FortyAtMost() {
        Run run = Run.bare();
        for (int i = 0; i < 20; i++) {
            run = run.then("feed", 0x00020002, 0x00020002, 0x00020002, 0x00020002, 0x00020002);
        }
        int[][] rows = {{76, 38}, {78, 39}, {80, 40}, {82, 40}, {84, 40}, {399, 40}, {400, 40}};
        for (int[] r : rows) {
            DUE.due("row of " + r[0], run.then("end", r[0]).play().row(), 2 * r[1]);
        }
    }

    private static void promise11LeftOut() {
        Run run = Run.bare();
        int[] want = new int[40];
        for (int i = 0; i < 40; i++) {
            run = run.then("hours", i / 10, i % 10, 100 + i);
            want[i] = 100 + i;
        }
        run = run.then("feed", 0, 5, 0, 0, 0);
        year("one byte", run.then("end", 1).then("row"), want);
        want[0] = 0;
        year("two bytes", run.then("end", 2).then("row"), want);
        year("three bytes", run.then("end", 3).then("row"), want);
        want[1] = 0;
        want[2] = 0;
        year("seven bytes", run.then("end", 7).then("row"), want);
        want[3] = 5;
        year("eight bytes", run.then("end", 8).then("row"), want);
    }

    private static void promise11TapeIsEmptyThen() {
        for (int n : new int[] {1, 2, 80, 81, 400}) {
            Edge edge = new Edge(DUE, bytes(n)).of("the TAPE is empty then");
            edge.taken(Math.min(n / 4, 20), "row");
            DUE.due("bytes", bytes(n).then("row").play().count(6), 0);
            new Edge(DUE, bytes(n).then("row")).of("and so a second is refused").refused(-6, "row");
            DUE.due("feed behind it", bytes(n).then("row").play().feed(1, 2, 3, 4, 5), 20);
        }
    }

    private static void promise11Refused() {
        Run run = Run.some().then("end", 0);
        Edge edge = new Edge(DUE, run).of("-6 the TAPE is empty");
        edge.refused(-6, "row");
        new Edge(DUE, run.then("feed", 1, 1, 1, 1, 1).then("end", 0)).refused(-6, "row");
        new Edge(DUE, Run.some().then("end", 1)).of("one byte is a ROW").taken(277, "row");
        DUE.due("HOURS in all without it", Run.some().play().count(5), 277);
    }

    private static void promise12Torn() {
        new Edge(DUE, Run.bare()).of("0 ahead of any").asked(0, "torn");
        for (int n = 1; n <= 90; n++) {
            TowerFoot t = bytes(n).then("row").play();
            DUE.due("TORN of " + n, t.torn(), n <= 80 ? n % 2 : n - 80);
        }
        DUE.due("TORN of 399", bytes(399).then("row").play().torn(), 319);
        DUE.due("TORN of 400", bytes(400).then("row").play().torn(), 320);
        DUE.due("not yet a row", bytes(7).play().torn(), 0);
    }

    private static void promise12Latest() {
        Run seven = bytes(87).then("row");
        new Edge(DUE, seven).of("TORN").asked(7, "torn");
        new Edge(DUE, seven.then("row")).of("the latest that was not REFUSED").asked(7, "torn");
        new Edge(DUE, seven.then("feed", 1, 1, 1, 1, 1).then("row")).of("the latest")
                .asked(0, "torn");
        new Edge(DUE, seven.then("feed", 1, 1, 1, 1, 1).then("law")).of("no row()").asked(7, "torn");
        new Edge(DUE, Run.bare().then("image", 0).then(seven).then("back", 0))
                .of("IMAGES don't keep it").asked(7, "torn");
    }
}
