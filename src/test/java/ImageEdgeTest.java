import java.util.List;

/** The edges that Terms IV and promises 38 to 41 name of IMAGES, counts and the status. */
public final class ImageEdgeTest {
    private static final Due DUE = new Due("ImageEdgeTest");
    private static final int MIN = Integer.MIN_VALUE;
    private static final int MAX = Integer.MAX_VALUE;
    private static final String[] NOTHING = {};

    public static void main(String[] args) {
        Edge some = new Edge(DUE, Run.some());
        promise38Numbers(some);
        promise38Latest();
        promise39Numbers(some);
        promise39NotKept();
        promise39AsItWas();
        promise39FromOneToAnother();
        promise39NotTheTape();
        promise39Stay();
        promise40Numbers(some);
        promise40Each();
        promise40NotKept();
        promise40Of512Calls();
        promise41Refused();
        promise41NotRefused();
        promise41Others();
        DUE.end();
    }

    private static void same(String name, Run was, Run is, String... but) {
        String difference = Portrait.difference(Portrait.of(was), Portrait.of(is), but);
        DUE.due(name + ": " + difference, difference == null ? 0 : 1, 0);
    }

    private static void promise38Numbers(Edge some) {
        some.of("IMAGE k is kept: 0; -1");
        some.takenBut(0, new String[] {"image 0:"}, "image", 0);
        some.takenBut(0, new String[] {"image 1:"}, "image", 1);
        for (int k : new int[] {MIN, -2, -1, 2, 3, 256, MAX}) {
            some.refused(-1, "image", k);
        }
        new Edge(DUE, Run.bare()).of("a new object's").taken(0, "image", 0);
        new Edge(DUE, Run.full()).of("a full one's").taken(0, "image", 1);
    }

    private static void promise38Latest() {
        Run twice = Run.bare().then("put", 5, 0, 1).then("image", 0).then("put", 5, 0, 2)
                .then("image", 0).then("put", 5, 0, 3).then("back", 0);
        DUE.due("the latest that was kept", twice.play().of(5, 0), 2);
        Run both = Run.bare().then("put", 5, 0, 1).then("image", 0).then("put", 5, 0, 2)
                .then("image", 1).then("put", 5, 0, 3);
        DUE.due("each its own", both.then("back", 0).play().of(5, 0), 1);
        DUE.due("each its own", both.then("back", 1).play().of(5, 0), 2);
    }

    private static void promise39Numbers(Edge some) {
        some.of("-1");
        for (int k : new int[] {MIN, -2, -1, 2, 3, 256, MAX}) {
            some.refused(-1, "back", k);
        }
        some.of("BACK to IMAGE k: 0").taken(0, "back", 0);
        some.of("-2 it was not kept").refused(-2, "back", 1);
    }

    private static void promise39NotKept() {
        Edge bare = new Edge(DUE, Run.bare()).of("-2 it was not kept");
        bare.refused(-2, "back", 0);
        bare.refused(-2, "back", 1);
        bare.after("image", 0).taken(0, "back", 0);
        bare.after("image", 0).refused(-2, "back", 1);
        bare.after("image", 1).taken(0, "back", 1);
        bare.after("image", 1).refused(-2, "back", 0);
        bare.after("image", 2).refused(-2, "back", 0);
        bare.of("no IMAGE is kept by BACK").after("image", 1).after("back", 1)
                .refused(-2, "back", 0);
    }

    /** Behind any call BACK all is as it was, whatever can be asked. */
    private static void promise39AsItWas() {
        Run run = Run.some().then("image", 1);
        Run[] changes = {
            Run.none().then("tower", 8, 6, 2, 2, 9), Run.none().then("high", 0, 40),
            Run.none().then("high", 2, 1), Run.none().then("put", 34, 0, 9),
            Run.none().then("put", 24, 1, 0), Run.none().then("put", 34, 2, 0),
            Run.none().then("line", 1, 0, 99), Run.none().then("line", 3, 1, 9999),
            Run.none().then("line", 3, 0, 98), Run.none().then("line", 1, 1, 9998),
            Run.none().then("line", 2, 0, 97), Run.none().then("line", 2, 1, 9997),
            Run.none().then("hours", 0, 5, 0), Run.none().then("hours", 3, 9, 999),
            Run.none().then("force", 1), Run.none().then("force", -1),
            Run.none().then("work", 0, 34, 9, 1), Run.none().then("work", 2, 2, 9, 1),
            Run.none().then("drop", 0), Run.none().then("drop", 3), Run.none().then("build", 15),
            Run.none().then("build", 4), Run.none().then("place", 34),
            Run.none().then("tower", 3, 3, 1, 1, 30).then("tower", 2, 2, 1, 1, 30)
                    .then("tower", 6, 2, 1, 2, 3),
            Run.none().then("image", 0).then("tower", 3, 3, 1, 1, 30),
        };
        for (int i = 0; i < changes.length; i++) {
            Run changed = run.then(changes[i]);
            String difference = Portrait.difference(Portrait.of(run), Portrait.of(changed));
            DUE.due("change " + i + " is one", difference != null ? 1 : 0, 1);
            boolean kept = i == changes.length - 1;
            same("BACK behind change " + i, run, changed.then("back", 1),
                    kept ? new String[] {"image 0:"} : NOTHING);
        }
        Run all = run;
        for (Run change : changes) {
            all = all.then(change);
        }
        same("BACK behind all changes", run, all.then("back", 1), "image 0:");
        Run empty = Run.bare().then("image", 0);
        same("BACK to a new object", empty, empty.then(Run.full()).then("end", 0).then("back", 0));
    }

    /** A square with all there is, other ones by another turn. */
    private static Run square(int turn) {
        Run run = Run.none();
        for (int i = 0; i < 5; i++) {
            int x = 2 * i + turn / 2;
            run = run.then("tower", x, turn, 1 + turn % 2, 1 + turn % 3, 9 + i + turn)
                    .law("quick " + (100 + 10 * turn + i)).then("place", 60 + 3 * i + turn)
                    .then("work", (i + turn) % 2, 80 + 2 * i + turn, 1 + turn, 10 * i + turn)
                    .then("put", 40 + i + turn, turn % 3, 1 + turn);
        }
        for (int use = 1; use <= 3; use++) {
            run = run.then("line", use, 0, use + turn).then("line", use, 1, 10 * use + turn);
        }
        for (int i = 0; i < 40; i++) {
            run = run.then("hours", i / 10, i % 10, 1 + i + 10 * turn);
        }
        return run.then("work", 2, turn, 9, 1).then("work", 3, 50, 55 + turn, 2)
                .then("force", turn);
    }

    /** Of two squares none of what is kept is the same, and BACK nothing of the other is left. */
    private static void promise39FromOneToAnother() {
        Run start = Run.bare().then("image", 1);
        Run first = start.then(square(1)).then("image", 0);
        Run second = start.then(square(2)).then("image", 0);
        same("BACK over another square", first,
                first.then("back", 1).then(square(2)).then("back", 0));
        same("BACK over another square", second,
                second.then("back", 1).then(square(1)).then("back", 0));
        same("an IMAGE over another one", second,
                first.then("back", 1).then(square(2)).then("image", 0));
        same("BACK to open ground", start.then("image", 0),
                first.then("back", 1).then("image", 0));
        DUE.due("they are not the same", Portrait.difference(Portrait.of(first),
                Portrait.of(second)) == null ? 1 : 0, 0);
    }

    /** "all but the TAPE, FAULT, TORN, the latest DAY". */
    private static void promise39NotTheTape() {
        Run run = Run.some().then("image", 1);
        same("the TAPE", run.then("end", 3), run.then("end", 3).then("back", 1));
        Run fed = run.then("feed", 1, 2, 3, 4, 5);
        same("the TAPE", fed, fed.then("back", 1));
        Run day = run.then("day", 12345);
        same("the latest DAY", day, day.then("back", 1));
        String difference = Portrait.difference(Portrait.of(run), Portrait.of(day));
        DUE.due("another DAY", difference != null && difference.startsWith("drawn") ? 1 : 0, 1);
        Run fault = run.law("quick x if y#");
        same("FAULT", fault, fault.then("back", 1));
        DUE.due("FAULT", fault.then("back", 1).play().fault(), 12);
        Run law = run.law("quick 3");
        DUE.due("FAULT", law.then("back", 1).play().fault(), -1);
        DUE.due("LAWS are kept", law.then("back", 1).play().count(2), 2);
        Run row = run.text("\u0000\u0001".repeat(40) + "123456789").then("row");
        TowerFoot t = row.then("back", 1).play();
        DUE.due("TORN", t.torn(), 9);
        DUE.due("the TAPE", t.count(6), 0);
        DUE.due("HOURS are kept", t.count(5), 277);
    }

    private static void promise39Stay() {
        Run run = Run.bare().then("put", 5, 0, 1).then("image", 0).then("put", 5, 0, 2)
                .then("image", 1).then("put", 5, 0, 3);
        int[] backs = {0, 1, 0, 0, 1, 1};
        for (int k : backs) {
            run = run.then("back", k);
            DUE.due("IMAGES stay", run.play().of(5, 0), k + 1);
            run = run.then("put", 5, 0, 9);
            DUE.due("what is changed behind it", run.play().of(5, 0), 9);
        }
        Run deep = Run.some().then("image", 1);
        List<String> was = Portrait.of(deep);
        Run again = deep;
        for (int i = 0; i < 3; i++) {
            again = again.then("tower", 8, 6, 2, 2, 9).then("build", 15).then("back", 1);
            String difference = Portrait.difference(was, Portrait.of(again));
            DUE.due("BACK again: " + difference, difference == null ? 0 : 1, 0);
        }
    }

    private static void promise40Numbers(Edge some) {
        some.of("NONE for others");
        some.none("count", Due.row(-1), Due.row(-2), Due.row(13), Due.row(14), Due.row(256),
                Due.row(MIN), Due.row(MAX));
        int[] want = {3, 93, 2, 4, 3, 277, 9};
        for (int what = 0; what < want.length; what++) {
            some.of("how many there are").asked(want[what], "count", what);
        }
        some.of("the LAW in FORCE").asked(0, "count", 12);
    }

    private static void promise40Each() {
        int[] bare = {0, 100, 0, 0, 0, 0, 0, 0, 0, 0, 0, 0, -1};
        int[] full = {6, 94, 6, 8, 12, 10, 400, 0, 0, 0, 0, 0, -1};
        TowerFoot none = new TowerFoot();
        TowerFoot all = Run.full().play();
        for (int what = 0; what < 13; what++) {
            DUE.due("count(" + what + ") of a new object", none.count(what), bare[what]);
            DUE.due("count(" + what + ") of a full one", all.count(what), full[what]);
        }
        TowerFoot t = Run.full().then("force", 5).play();
        DUE.due("the last LAW", t.count(12), 5);
        for (int i = 1; i <= 9; i++) {
            t.image(-1);
            t.drop(99);
            t.put(0, 0, 0);
            t.place(90);
            DUE.due("REFUSED by -1", t.count(7), i);
            DUE.due("REFUSED by -2", t.count(8), i);
            DUE.due("REFUSED by -3", t.count(9), i);
            DUE.due("REFUSED by -5", t.count(10), i);
            DUE.due("REFUSED by -6", t.count(11), i - 1);
            t.end(0);
            t.row();
            DUE.due("REFUSED by -6", t.count(11), i);
        }
    }

    /** "An object is used for at most 512 calls": the last of them is answered like any. */
    private static void promise40Of512Calls() {
        TowerFoot t = new TowerFoot();
        for (int i = 0; i < 511; i++) {
            t.image(9);
        }
        DUE.due("511 were REFUSED", t.count(7), 511);
        t = new TowerFoot();
        for (int i = 0; i < 511; i++) {
            t.put(50, 0, i % 10);
        }
        DUE.due("the 512th call", t.of(50, 0), 0);
    }

    private static void promise40NotKept() {
        Run run = Run.full().then("image", 7).then("drop", 9).then("drop", 9).then("put", 0, 0, 0)
                .then("put", 1, 0, 0).then("put", 2, 0, 0).then("place", 90).then("end", 0)
                .then("row").then("row").then("image", 0);
        int[] want = {1, 2, 3, 1, 2};
        Run more = run.then("image", 7).then("drop", 9).then("put", 0, 0, 0).then("place", 90)
                .then("row").then("back", 0);
        TowerFoot t = more.play();
        for (int i = 0; i < want.length; i++) {
            DUE.due("IMAGES do not keep that", t.count(7 + i), want[i] + 1);
        }
    }

    private static void promise41Refused() {
        DUE.due("status() ahead of any", new TowerFoot().status(), 0);
        Object[][] calls = {
            {"tower", -1, new int[] {0, 0, 0, 0, 0}}, {"tower", -3, new int[] {4, 4, 1, 1, 1}},
            {"high", -1, new int[] {0, 0}}, {"high", -2, new int[] {3, 1}},
            {"put", -1, new int[] {0, 0, 10}}, {"put", -3, new int[] {44, 0, 1}},
            {"line", -1, new int[] {0, 0, 0}}, {"hours", -1, new int[] {0, 0, 1000}},
            {"force", -2, new int[] {2}}, {"work", -1, new int[] {0, 0, 0, 0}},
            {"work", -2, new int[] {2, 3, 1, 1}}, {"work", -3, new int[] {0, 44, 1, 1}},
            {"drop", -2, new int[] {4}}, {"build", -1, new int[] {16}},
            {"place", -1, new int[] {100}}, {"place", -3, new int[] {44}},
            {"day", -1, new int[] {-1}}, {"image", -1, new int[] {2}}, {"back", -1, new int[] {2}},
            {"back", -2, new int[] {1}},
        };
        Edge some = new Edge(DUE, Run.some());
        for (Object[] call : calls) {
            some.of("REFUSED").refused((Integer) call[1], (String) call[0], (int[]) call[2]);
        }
    }

    private static void promise41NotRefused() {
        Edge some = new Edge(DUE, Run.some()).of("0 if it was not");
        some.taken(3, "tower", 0, 0, 1, 1, 1);
        some.taken(20, "high", 0, 1);
        some.taken(0, "put", 0, 0, 1);
        some.taken(5, "line", 1, 0, 1);
        some.taken(100, "hours", 0, 5, 1);
        some.taken(0, "force", -1);
        some.taken(4, "work", 0, 0, 1, 1);
        some.taken(3, "drop", 0);
        some.taken(Run.some().play().over(-1), "build", 0);
        some.taken(3, "place", 0);
        some.taken(Run.some().play().day(0), "day", 0);
        some.taken(0, "image", 0);
        some.taken(0, "back", 0);
        Run text = Run.some().text("quick 1");
        new Edge(DUE, text).of("0 if it was not").taken(2, "law");
        Run row = Run.some().text("\u0000");
        new Edge(DUE, row).of("0 if it was not").taken(277, "row");
    }

    /** A call that is not in the list leaves the status as it was, whatever it answers. */
    private static void promise41Others() {
        String list = " tower high put line hours row law force work drop build place day image back ";
        int others = 0;
        for (String[] call : Calls.FACE) {
            if (list.contains(" " + call[0] + " ")) {
                continue;
            }
            others++;
            for (int number : new int[] {0, 1, -1, 100, MIN, MAX}) {
                for (int why : new int[] {0, -1, -2}) {
                    TowerFoot t = Run.some().then("force", why == -2 ? 9 : 0).play();
                    if (why == -1) {
                        t.image(2);
                    }
                    int[] a = new int[call[1].length()];
                    java.util.Arrays.fill(a, number);
                    Calls.call(t, call[0], a);
                    DUE.due("status() behind " + call[0], t.status(), why);
                }
            }
        }
        DUE.due("calls that are not in the list", others, 25);
    }
}
