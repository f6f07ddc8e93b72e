/** Promises 38 to 41: IMAGES, going BACK to them, what there is, and the latest refusal. */
public final class ImageTest {
    private static final Due DUE = new Due("ImageTest");
    private static final int MIN = Integer.MIN_VALUE;
    private static final int MAX = Integer.MAX_VALUE;

    public static void main(String[] args) {
        promise38Image();
        promise39Back();
        promise39Laws();
        promise39Kept();
        promise40Count();
        promise41Status();
        DUE.end();
    }

    private static void promise38Image() {
        TowerFoot t = new TowerFoot();
        DUE.refused(t, "image", -1, 2);
        DUE.refused(t, "image", -1, -1);
        DUE.refused(t, "image", -1, MIN);
        DUE.refused(t, "image", -1, MAX);
        DUE.due("first", t.image(0), 0);
        DUE.due("status", t.status(), 0);
        DUE.due("second", t.image(1), 0);
        t.put(0, 0, 5);
        DUE.due("anew", t.image(1), 0);
        t.put(0, 0, 6);
        t.back(1);
        DUE.due("as it was anew", t.of(0, 0), 5);
        t.back(0);
        DUE.due("as it was at first", t.of(0, 0), 0);
    }

    private static void promise39Back() {
        TowerFoot t = new TowerFoot();
        DUE.refused(t, "back", -1, 2);
        DUE.refused(t, "back", -1, -1);
        DUE.refused(t, "back", -1, MIN);
        DUE.refused(t, "back", -1, MAX);
        DUE.refused(t, "back", -2, 0);
        DUE.refused(t, "back", -2, 1);
        t.image(1);
        DUE.refused(t, "back", -2, 0);
        DUE.due("back", t.back(1), 0);
        DUE.due("status", t.status(), 0);
        t.tower(1, 1, 1, 1, 9);
        t.put(0, 1, 5);
        DUE.due("back again", t.back(1), 0);
        DUE.due("no tower", t.at(11), -1);
        DUE.due("no screen", t.of(0, 1), 0);
        t.put(0, 1, 5);
        DUE.due("the image stays", t.back(1), 0);
        DUE.due("no screen", t.of(0, 1), 0);
    }

    private static void law(TowerFoot t, String text) {
        Calls.feedText(t, text);
        t.law();
    }

    private static void promise39Laws() {
        TowerFoot t = new TowerFoot();
        law(t, "quick 1");
        t.force(0);
        t.image(0);
        law(t, "quick 2");
        t.force(1);
        t.image(1);
        t.back(0);
        DUE.due("one law", t.count(2), 1);
        DUE.due("in force", t.count(12), 0);
        DUE.due("its quick", t.kind(5, 0, 6), 1);
        DUE.due("no second", t.force(1), -2);
        law(t, "quick 3");
        t.force(1);
        DUE.due("another second", t.kind(5, 0, 6), 3);
        t.back(1);
        DUE.due("the second that was", t.kind(5, 0, 6), 2);
        t = new TowerFoot();
        t.image(0);
        law(t, "quick 4");
        t.force(0);
        t.image(1);
        t.back(0);
        DUE.due("no law", t.count(2), 0);
        law(t, "quick 5");
        t.force(0);
        DUE.due("another first", t.kind(5, 0, 6), 5);
        t.back(1);
        DUE.due("the first that was", t.kind(5, 0, 6), 4);
    }

    private static void promise39Kept() {
        TowerFoot t = new TowerFoot();
        t.tower(3, 3, 2, 2, 12);
        t.put(0, 0, 1);
        t.put(0, 1, 2);
        t.put(0, 2, 3);
        t.line(3, 0, 4);
        t.line(3, 1, 5);
        t.hours(1, 6, 60);
        t.work(2, 0, 3, 33);
        t.work(0, 7, 3, 44);
        t.place(9);
        t.image(0);
        t.high(0, 1);
        t.tower(8, 8, 1, 1, 1);
        t.put(0, 0, 9);
        t.put(0, 1, 9);
        t.put(0, 2, 1);
        t.line(3, 0, 9);
        t.line(3, 1, 9);
        t.hours(1, 6, 99);
        t.hours(0, 1, 1);
        t.drop(0);
        t.place(19);
        t.tower(70, 0, 0, 0, 0);
        t.feed(1, 1, 1, 1, 1);
        t.back(0);
        DUE.due("tape stays", t.count(6), 20);
        DUE.due("refusals stay", t.count(7), 1);
        DUE.due("towers", t.count(0), 1);
        DUE.due("works", t.count(3), 2);
        DUE.due("coin", t.done(3, 3), 77);
        DUE.due("places", t.count(4), 1);
        DUE.due("hours in all", t.count(5), 60);
        DUE.due("trees", t.of(0, 0), 1);
        DUE.due("screen", t.of(0, 1), 2);
        DUE.due("use", t.of(0, 2), 3);
        DUE.due("line pace", t.line(3, 0, 0), 4);
        DUE.due("line hours", t.line(3, 1, 0), 5);
        DUE.due("high", t.high(0, 9), 12);
        DUE.due("hours", t.hours(1, 6, 0), 60);
        DUE.due("a place again", t.place(19), 1);
        t.image(0);
        t.build(3);
        t.back(0);
        DUE.due("what was built is not", t.high(0, 9), 9);
        DUE.due("works", t.count(3), 2);
        DUE.due("trees", t.of(7, 0), 0);
    }

    private static void promise40Count() {
        TowerFoot t = new TowerFoot();
        t.tower(0, 0, 2, 3, 1);
        t.tower(5, 5, 1, 1, 1);
        law(t, "quick 1");
        law(t, "quick 2");
        law(t, "quick 3");
        t.force(2);
        t.work(0, 9, 1, 1);
        t.place(9);
        t.place(8);
        t.place(7);
        t.place(6);
        t.hours(0, 0, 5);
        t.hours(3, 9, 8);
        t.feed(1, 1, 1, 1, 1);
        t.end(13);
        int[] want = {2, 93, 3, 1, 4, 13, 13, 0, 0, 0, 0, 0, 2};
        for (int i = 0; i < want.length; i++) {
            DUE.due("count " + i, t.count(i), want[i]);
        }
        DUE.none(t, "count", Due.row(-1), Due.row(13), Due.row(MIN), Due.row(MAX));
        t.at(-1);
        t.feed(0, 0, 0, 0, 0);
        t.end(-1);
        t.of(-1, 0);
        t.done(-1, 0);
        DUE.due("what answers NONE was not refused", t.count(7), 0);
        t.image(0);
        for (int i = 0; i < 5; i++) {
            t.image(7);
        }
        for (int i = 0; i < 4; i++) {
            t.drop(7);
        }
        for (int i = 0; i < 3; i++) {
            t.place(55);
        }
        t.end(1);
        law(t, "");
        t.end(0);
        t.row();
        t.back(0);
        for (int i = 0; i < 4; i++) {
            law(t, "quick 1");
        }
        int[] refused = {5, 4, 3, 1, 2};
        for (int i = 0; i < refused.length; i++) {
            DUE.due("count " + (7 + i), t.count(7 + i), refused[i]);
        }
        DUE.due("nothing asked is refused", t.status(), -5);
    }

    private static void promise41Status() {
        TowerFoot t = new TowerFoot();
        DUE.due("ahead of any", t.status(), 0);
        String[][] calls = {{"tower", "-1"}, {"high", "-1"}, {"put", "-1"}, {"line", "-1"},
            {"hours", "-1"}, {"row", "-6"}, {"law", "-6"}, {"force", "-2"}, {"work", "-1"},
            {"drop", "-2"}, {"build", "-1"}, {"place", "-1"}, {"day", "-1"}, {"image", "-1"},
            {"back", "-1"}};
        for (String[] call : calls) {
            int why = Integer.parseInt(call[1]);
            DUE.due(call[0], Calls.call(t, call[0], -5, -5, -5, -5, -5), why);
            DUE.due("status behind " + call[0], t.status(), why);
            DUE.due("status again", t.status(), why);
            for (String[] other : Calls.FACE) {
                boolean tells = false;
                for (String[] c : calls) {
                    tells |= c[0].equals(other[0]);
                }
                if (!tells && call[0].equals("day")) {
                    Calls.call(t, other[0], -5, -5, -5, -5, -5);
                    DUE.due("status behind " + other[0], t.status(), why);
                }
            }
            t.end(0);
            DUE.due("one that is not refused", t.force(-1), -1);
            DUE.due("status behind that", t.status(), 0);
        }
    }
}
