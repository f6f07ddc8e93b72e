import java.util.ArrayList;
import java.util.Arrays;
import java.util.List;

/**
 * All that can be found out about what a Run leads to, but for status() and the count of refusals.
 * It asks new objects over and over, so that none of them has more than 512 calls.
 */
final class Portrait {
    private static final int CALLS_MOST = 512;

    private final Run run;
    private final List<String> seen = new ArrayList<>();
    private TowerFoot t;
    private int left = 0;
    private boolean takes = false;

    private Portrait(Run run) {
        this.run = run;
    }

    static List<String> of(Run run) {
        Portrait all = new Portrait(run);
        all.askAll();
        all.take();
        for (int k = 0; k < 2; k++) {
            Portrait back = new Portrait(run.then("back", k));
            back.begin();
            back.ask("status");
            back.askAll();
            back.take();
            for (String row : back.seen) {
                all.seen.add("image " + k + ": " + row);
            }
        }
        return all.seen;
    }

    /** The first row in which two differ, leaving out rows that have one of these words; or null. */
    static String difference(List<String> was, List<String> is, String... but) {
        List<String> a = without(was, but);
        List<String> b = without(is, but);
        for (int i = 0; i < a.size() && i < b.size(); i++) {
            if (!a.get(i).equals(b.get(i))) {
                return a.get(i) + " became " + b.get(i);
            }
        }
        return a.size() == b.size() ? null : "how many rows there are";
    }

    private static List<String> without(List<String> rows, String[] but) {
        List<String> kept = new ArrayList<>(rows);
        for (String word : but) {
            kept.removeIf(row -> row.contains(word));
        }
        return kept;
    }

    private void begin() {
        t = run.play();
        left = CALLS_MOST - run.calls();
    }

    private void ask(String name, int... a) {
        if (left == 0) {
            if (takes) {
                throw new IllegalStateException("the Run is too long to be asked so much");
            }
            begin();
        }
        left--;
        seen.add(name + Arrays.toString(a) + " " + Calls.call(t, name, a));
    }

    /** What changes nothing. */
    private void askAll() {
        for (int what : new int[] {0, 1, 2, 3, 4, 5, 6, 12}) {
            ask("count", what);
        }
        ask("fault");
        ask("torn");
        for (int hour = 0; hour < 24; hour++) {
            ask("drawn", hour, 0);
            ask("drawn", hour, 1);
        }
        for (int cell = 0; cell < 100; cell++) {
            ask("at", cell);
            ask("of", cell, 0);
            ask("of", cell, 1);
            ask("of", cell, 2);
            ask("over", cell);
            ask("kind", cell, cell % 4, 6);
            ask("above", cell, 4);
        }
        for (int what = 0; what < 3; what++) {
            ask("glass", what);
            ask("least", what);
            ask("site", 2, 1, 30, what);
        }
        for (int bits = 0; bits < 256; bits = 2 * bits + 1) {
            for (int what = 0; what < 4; what++) {
                ask("done", bits, what);
                ask("done", bits - bits / 2, what);
            }
        }
        for (int tower = 0; tower < 6; tower++) {
            ask("does", tower);
            ask("share", tower);
            ask("odds", tower, 34, 0, 5, 0);
        }
    }

    /** What only a call tells that changes it. */
    private void take() {
        takes = true;
        takeNumbers();
        takeTape();
        takeLaws();
        begin();
        for (int cell = 0; cell < 100; cell++) {
            ask("place", cell);
        }
        begin();
        for (int work = 0; work < 8; work++) {
            ask("build", 1);
            ask("count", 3);
        }
        for (int cell = 0; cell < 100; cell++) {
            for (int what = 0; what < 3; what++) {
                ask("of", cell, what);
            }
        }
    }

    private void takeNumbers() {
        begin();
        for (int use = 1; use <= 3; use++) {
            ask("line", use, 0, 0);
            ask("line", use, 1, 0);
        }
        for (int i = 0; i < 40; i++) {
            ask("hours", i / 10, i % 10, 0);
        }
        for (int tower = 0; tower < 6; tower++) {
            ask("high", tower, 1);
        }
    }

    private void takeTape() {
        begin();
        ask("row");
        ask("torn");
        for (int i = 0; i < 40; i++) {
            ask("hours", i / 10, i % 10, 0);
        }
        begin();
        ask("law");
        ask("fault");
    }

    private void takeLaws() {
        begin();
        for (int law = 5; law >= -1; law--) {
            ask("force", law);
            for (int cell = 2; cell < 100; cell += 19) {
                ask("kind", cell, 0, 6);
            }
        }
    }
}
