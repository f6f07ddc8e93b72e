import java.util.Arrays;
import java.util.List;

/**
 * The edges of the document's sentences: each call is made on a new object to which a Run has led,
 * behind one that was refused, so that status() can be seen to change or to stay.
 */
final class Edge {
    private static final int[] WHYS = {-1, -2, -3, -5, -6};

    private final Due due;
    private final Run run;
    private final List<String> portrait;
    private String sentence = "";

    Edge(Due due, Run run) {
        this.due = due;
        this.run = run;
        this.portrait = Portrait.of(run);
    }

    /** The document's words that the next edges are of. */
    Edge of(String words) {
        sentence = words;
        return this;
    }

    /** The same words' edges from another Run. */
    Edge from(Run other) {
        return new Edge(due, other).of(sentence);
    }

    Edge after(String name, int... a) {
        return from(run.then(name, a));
    }

    private static Run refusedOnce(Run run, int why) {
        return why == -2 ? run.then("image", 9) : run.then("drop", 99);
    }

    private String told(String name, int[] a) {
        return "(" + sentence + ") " + name + Arrays.toString(a);
    }

    /** A call that status() is about and that is not refused. */
    void taken(long want, String name, int... a) {
        TowerFoot t = refusedOnce(run, 0).play();
        int[] counts = refusals(t);
        due.due(told(name, a), Calls.call(t, name, a), want);
        due.due("status() behind " + told(name, a), t.status(), 0);
        compare(name, a, counts, t, 0);
    }

    /** A call that is not refused, by which nothing changes but what is told by these words. */
    void takenBut(long want, String[] but, String name, int... a) {
        taken(want, name, a);
        same(told(name, a), portrait, Portrait.of(run.then(name, a)), but);
    }

    /** A call that is refused: nothing changes by it but status() and its count. */
    void refused(int why, String name, int... a) {
        refusedBut(run, why, new String[0], name, a);
    }

    /** A refused call behind which all is as if another Run had been, but for what is told. */
    void refusedBut(Run asIf, int why, String[] but, String name, int... a) {
        TowerFoot t = refusedOnce(run, why).play();
        int[] counts = refusals(t);
        due.due(told(name, a), Calls.call(t, name, a), why);
        due.due("status() behind " + told(name, a), t.status(), why);
        compare(name, a, counts, t, why);
        List<String> was = asIf == run ? portrait : Portrait.of(asIf);
        same(told(name, a), was, Portrait.of(run.then(name, a)), but);
    }

    /** A call that status() is not about: its answer, and that nothing at all changes. */
    void asked(long want, String name, int... a) {
        TowerFoot t = refusedOnce(run, 0).play();
        int[] counts = refusals(t);
        due.due(told(name, a), Calls.call(t, name, a), want);
        due.due("status() behind " + told(name, a), t.status(), -2);
        compare(name, a, counts, t, 0);
        same(told(name, a), portrait, Portrait.of(run.then(name, a)));
    }

    /** A call that status() is not about, but that changes something: feed(), end(). */
    void changes(long want, String name, int... a) {
        TowerFoot t = refusedOnce(run, 0).play();
        int[] counts = refusals(t);
        due.due(told(name, a), Calls.call(t, name, a), want);
        due.due("status() behind " + told(name, a), t.status(), -2);
        compare(name, a, counts, t, 0);
    }

    /** Calls that answer NONE. */
    void none(String name, int[]... rows) {
        for (int[] a : rows) {
            asked(-1, name, a);
        }
    }

    /**
     * A number of a call that status() is about: taken from least to most at both ends, refused
     * beyond, however far. The call is as told but for the number at this place.
     */
    void range(int why, int place, int least, int most, String name, int... a) {
        for (int number : ends(least, most)) {
            int[] b = a.clone();
            b[place] = number;
            if (number >= least && number <= most) {
                TowerFoot t = refusedOnce(run, 0).play();
                due.due(told(name, b) + " is taken", Calls.call(t, name, b) >= 0 ? 1 : 0, 1);
                due.due("status() behind " + told(name, b), t.status(), 0);
            } else {
                refused(why, name, b);
            }
        }
    }

    /** The same of a call that answers NONE and is never refused. */
    void rangeOrNone(int place, int least, int most, String name, int... a) {
        for (int number : ends(least, most)) {
            int[] b = a.clone();
            b[place] = number;
            if (number >= least && number <= most) {
                due.due(told(name, b) + " is answered",
                        Calls.call(run.play(), name, b) >= 0 ? 1 : 0, 1);
            } else {
                none(name, b);
            }
        }
    }

    private static int[] ends(int least, int most) {
        return new int[] {Integer.MIN_VALUE, least - 256, least - 1, least, Math.min(least + 1, most),
            Math.max(least, most - 1), most, most + 1, most + 256, Integer.MAX_VALUE};
    }

    private static int[] refusals(TowerFoot t) {
        int[] counts = new int[WHYS.length];
        for (int i = 0; i < counts.length; i++) {
            counts[i] = t.count(7 + i);
        }
        return counts;
    }

    private void compare(String name, int[] a, int[] counts, TowerFoot t, int why) {
        for (int i = 0; i < counts.length; i++) {
            due.due("count(" + (7 + i) + ") behind " + told(name, a), t.count(7 + i),
                    counts[i] + (WHYS[i] == why ? 1 : 0));
        }
    }

    private void same(String call, List<String> was, List<String> is, String... but) {
        String difference = Portrait.difference(was, is, but);
        due.due("behind " + call + " " + difference, difference == null ? 0 : 1, 0);
    }
}
