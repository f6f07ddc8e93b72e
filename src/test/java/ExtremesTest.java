/** No call throws, whatever its numbers and whatever there is; -Dwide=true tries more numbers. */
public final class ExtremesTest {
    private static final Due DUE = new Due("ExtremesTest");
    private static final int MIN = Integer.MIN_VALUE;
    private static final int MAX = Integer.MAX_VALUE;
    private static final int[] FEW = {MIN, -1, 0, 1, 5, 9, 100, MAX};
    private static final int[] MANY = {MIN, MIN + 1, -100, -2, -1, 0, 1, 2, 3, 4, 5, 6, 9, 10, 40,
        99, 100, 255, 256, 400, 999, 1000, 10000, 1000000, 65536, 1 << 30, MAX - 1, MAX};

    public static void main(String[] args) {
        int[] numbers = Boolean.getBoolean("wide") ? MANY : FEW;
        for (Run run : new Run[] {Run.bare(), Run.some(), Run.full()}) {
            for (String[] call : Calls.FACE) {
                int many = call[1].length();
                tryAll(run.play(), call[0], new int[many], 0, many > 3 ? numbers : MANY);
            }
        }
        DUE.end();
    }

    private static void tryAll(TowerFoot t, String name, int[] a, int from, int[] numbers) {
        if (from == a.length) {
            long answer = Calls.call(t, name, a);
            DUE.due(name, answer >= -1000000000000L ? 1 : 0, 1);
            return;
        }
        for (int number : numbers) {
            a[from] = number;
            tryAll(t, name, a, from + 1, numbers);
        }
    }
}
