/** Counts and prints the answers that are not as due; ends the program with 1 if there are any. */
final class Due {
    private final String test;
    private int asked = 0;
    private int wrong = 0;

    Due(String test) {
        this.test = test;
    }

    void due(String call, long got, long want) {
        asked++;
        if (got != want) {
            wrong++;
            System.out.println(test + ": " + call + " answered " + got + ", due is " + want);
        }
    }

    /** A call that is REFUSED: its answer, its status, and that it was counted. */
    void refused(TowerFoot t, String name, int why, int... a) {
        int counter = why == -1 ? 7 : why == -2 ? 8 : why == -3 ? 9 : why == -5 ? 10 : 11;
        int before = t.count(counter);
        StringBuilder call = new StringBuilder(name).append(java.util.Arrays.toString(a));
        due(call.toString(), Calls.call(t, name, a), why);
        due("status() behind " + call, t.status(), why);
        due("count() behind " + call, t.count(counter), before + 1);
    }

    /** A call that answers NONE for each of these rows of numbers, and is not REFUSED by it. */
    void none(TowerFoot t, String name, int[]... rows) {
        int status = t.status();
        int before = t.count(7);
        for (int[] a : rows) {
            due(name + java.util.Arrays.toString(a), Calls.call(t, name, a), -1);
        }
        due("status() behind " + name, t.status(), status);
        due("count(7) behind " + name, t.count(7), before);
    }

    static int[] row(int... a) {
        return a;
    }

    void end() {
        System.out.println(test + ": " + asked + " answers, " + wrong + " not as due");
        if (wrong != 0 || asked == 0) {
            System.exit(1);
        }
    }
}
