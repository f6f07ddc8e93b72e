/** Every call of the face by its name, for tests that draw calls or tell them. */
final class Calls {
    /** What each number of a call means: one letter a number, read by FuzzTest. */
    static final String[][] FACE = {
        {"tower", "xywdh"}, {"high", "th"}, {"at", "c"}, {"put", "cav"}, {"of", "ca"},
        {"line", "ubl"}, {"hours", "ipn"}, {"feed", "*****"}, {"end", "e"}, {"row", ""},
        {"torn", ""}, {"law", ""}, {"fault", ""}, {"force", "f"}, {"kind", "cig"},
        {"above", "cq"}, {"over", "C"}, {"bad", "j"}, {"kinds", "ki"}, {"does", "t"},
        {"share", "t"}, {"ahead", "xywdh"}, {"site", "wdha"}, {"curve", "cisz"}, {"seat", "uj"},
        {"work", "omno"}, {"drop", "r"}, {"done", "Bg"}, {"least", "a"}, {"build", "B"},
        {"place", "c"}, {"glass", "a"}, {"salt", "Ciq"}, {"odds", "tcipb"}, {"day", "S"},
        {"drawn", "Hb"}, {"image", "b"}, {"back", "b"}, {"count", "#"}, {"status", ""},
    };

    private Calls() {
    }

    static long call(TowerFoot t, String name, int... a) {
        switch (name) {
            case "tower": return t.tower(a[0], a[1], a[2], a[3], a[4]);
            case "high": return t.high(a[0], a[1]);
            case "at": return t.at(a[0]);
            case "put": return t.put(a[0], a[1], a[2]);
            case "of": return t.of(a[0], a[1]);
            case "line": return t.line(a[0], a[1], a[2]);
            case "hours": return t.hours(a[0], a[1], a[2]);
            case "feed": return t.feed(a[0], a[1], a[2], a[3], a[4]);
            case "end": return t.end(a[0]);
            case "row": return t.row();
            case "torn": return t.torn();
            case "law": return t.law();
            case "fault": return t.fault();
            case "force": return t.force(a[0]);
            case "kind": return t.kind(a[0], a[1], a[2]);
            case "above": return t.above(a[0], a[1]);
            case "over": return t.over(a[0]);
            case "bad": return t.bad(a[0]);
            case "kinds": return t.kinds(a[0], a[1]);
            case "does": return t.does(a[0]);
            case "share": return t.share(a[0]);
            case "ahead": return t.ahead(a[0], a[1], a[2], a[3], a[4]);
            case "site": return t.site(a[0], a[1], a[2], a[3]);
            case "curve": return t.curve(a[0], a[1], a[2], a[3]);
            case "seat": return t.seat(a[0], a[1]);
            case "work": return t.work(a[0], a[1], a[2], a[3]);
            case "drop": return t.drop(a[0]);
            case "done": return t.done(a[0], a[1]);
            case "least": return t.least(a[0]);
            case "build": return t.build(a[0]);
            case "place": return t.place(a[0]);
            case "glass": return t.glass(a[0]);
            case "salt": return t.salt(a[0], a[1], a[2]);
            case "odds": return t.odds(a[0], a[1], a[2], a[3], a[4]);
            case "day": return t.day(a[0]);
            case "drawn": return t.drawn(a[0], a[1]);
            case "image": return t.image(a[0]);
            case "back": return t.back(a[0]);
            case "count": return t.count(a[0]);
            case "status": return t.status();
            default: throw new IllegalArgumentException(name);
        }
    }

    /** A text's bytes as the numbers of its feed() calls, five a call, blanks behind it. */
    static int[] numbers(String text) {
        int[] numbers = new int[(text.length() + 19) / 20 * 5];
        for (int i = 0; i < numbers.length * 4; i++) {
            int sign = i < text.length() ? text.charAt(i) : ' ';
            numbers[i / 4] = numbers[i / 4] << 8 | sign;
        }
        return numbers;
    }

    /** Puts a text on an empty TAPE. */
    static void feedText(TowerFoot t, String text) {
        int[] n = numbers(text);
        for (int i = 0; i < n.length; i += 5) {
            t.feed(n[i], n[i + 1], n[i + 2], n[i + 3], n[i + 4]);
        }
        t.end(text.length());
    }

    /** A new object with one LAW, which is in FORCE. */
    static TowerFoot withLaw(String text) {
        TowerFoot t = new TowerFoot();
        feedText(t, text);
        t.law();
        t.force(0);
        return t;
    }
}
