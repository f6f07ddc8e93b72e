import java.util.ArrayList;
import java.util.List;

/** A run of calls, which is played on as many new objects as a test wants to ask. */
final class Run {
    private final List<String> names;
    private final List<int[]> numbers;

    private Run(List<String> names, List<int[]> numbers) {
        this.names = names;
        this.numbers = numbers;
    }

    static Run none() {
        return new Run(new ArrayList<>(), new ArrayList<>());
    }

    /** This run and one call more; this one stays as it is. */
    Run then(String name, int... a) {
        Run more = new Run(new ArrayList<>(names), new ArrayList<>(numbers));
        more.names.add(name);
        more.numbers.add(a);
        return more;
    }

    Run then(Run other) {
        Run more = this;
        for (int i = 0; i < other.names.size(); i++) {
            more = more.then(other.names.get(i), other.numbers.get(i));
        }
        return more;
    }

    /** The TAPE has this text alone. */
    Run text(String text) {
        Run more = then("end", 0);
        int[] n = Calls.numbers(text);
        for (int i = 0; i < n.length; i += 5) {
            more = more.then("feed", n[i], n[i + 1], n[i + 2], n[i + 3], n[i + 4]);
        }
        return more.then("end", text.length());
    }

    Run law(String text) {
        return text(text).then("law");
    }

    int calls() {
        return names.size();
    }

    TowerFoot play() {
        TowerFoot t = new TowerFoot();
        for (int i = 0; i < names.size(); i++) {
            Calls.call(t, names.get(i), numbers.get(i));
        }
        return t;
    }

    /** A new object. */
    static Run bare() {
        return none();
    }

    /** Some of all that there can be, and room for more of each. */
    static Run some() {
        return none()
                .then("place", 60).then("work", 0, 70, 2, 3).then("image", 0)
                .then("tower", 4, 4, 2, 2, 20).then("tower", 0, 8, 2, 1, 7)
                .then("tower", 7, 2, 1, 1, 33)
                .then("put", 33, 0, 4).then("put", 24, 1, 5).then("put", 34, 2, 1)
                .then("put", 64, 2, 2).then("put", 43, 2, 3).then("put", 3, 2, 1)
                .then("put", 5, 0, 9).then("put", 6, 1, 9)
                .then("line", 1, 0, 5).then("line", 1, 1, 11).then("line", 2, 0, 2)
                .then("line", 3, 0, 7)
                .then("hours", 0, 5, 100).then("hours", 0, 9, 50).then("hours", 1, 4, 30)
                .then("hours", 2, 6, 70).then("hours", 3, 8, 20)
                .law("quick 100+rise*2-trees*3-screen*4;quick 50 if kind=4 and off<3")
                .law("quick 170+x+y").then("force", 0)
                .then("work", 1, 23, 6, 40).then("work", 2, 0, 9, 25).then("work", 3, 43, 99, 7)
                .then("place", 32).then("place", 66)
                .text("\u0000\u0007\u0000").then("row").law("quick 1 if")
                .then("day", 77).text("quick 9\u0001\u0002");
    }

    /** No room for one more of anything; what is told first is not refused by that. */
    static Run full() {
        Run run = none();
        for (int i = 0; i < 6; i++) {
            run = run.then("tower", i, 0, 1, 1, 5 + i);
        }
        for (int i = 0; i < 8; i++) {
            run = run.then("work", 0, 10 + i, 1, i);
        }
        for (int i = 0; i < 12; i++) {
            run = run.then("place", 50 + i);
        }
        for (int i = 0; i < 6; i++) {
            run = run.law("quick " + (100 + i));
        }
        for (int i = 0; i < 20; i++) {
            run = run.then("feed", i, i, i, i, i);
        }
        return run.then("hours", 0, 5, 10).then("put", 30, 2, 1).then("line", 1, 0, 3);
    }
}
