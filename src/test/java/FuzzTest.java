import java.util.ArrayList;
import java.util.Arrays;
import java.util.List;
import java.util.Random;

/** Draws runs of calls, the same ones each time, and compares each answer with the Oracle's. */
public final class FuzzTest {
    private static final int RUNS = Integer.getInteger("runs", 160);
    private static final int CALLS = 500;

    private final Random random;
    private final TowerFoot real = new TowerFoot();
    private final Oracle due = new Oracle();
    private final List<String> told = new ArrayList<>();
    private int left = CALLS;
    private boolean wrong = false;

    private FuzzTest(long seed) {
        random = new Random(seed);
    }

    public static void main(String[] args) {
        int first = Integer.getInteger("first", 0);
        for (int seed = first; seed < first + RUNS; seed++) {
            FuzzTest run = new FuzzTest(seed);
            run.go();
            if (run.wrong) {
                System.out.println("seed " + seed + ":");
                int from = Math.max(0, run.told.size() - 400);
                for (String line : run.told.subList(from, run.told.size())) {
                    System.out.println("  " + line);
                }
                System.exit(1);
            }
        }
        System.out.println(RUNS + " drawn runs are as due");
    }

    private void ask(String name, int... a) {
        if (wrong || left == 0) {
            return;
        }
        left--;
        long want = due.call(name, a);
        long got = Calls.call(real, name, a);
        told.add(name + Arrays.toString(a) + " " + got);
        if (got != want) {
            told.add("due is " + want);
            wrong = true;
        }
    }

    private void go() {
        int towers = random.nextInt(8);
        for (int i = 0; i < towers; i++) {
            ask("tower", up(10), up(10), 1 + up(3), 1 + up(3), 1 + up(40));
        }
        setYear();
        int uses = random.nextInt(3) == 0 ? 40 : 8;
        for (int i = 0; i < uses; i++) {
            ask("put", up(100), 2, 1 + up(3));
        }
        for (int u = 1; u <= 3; u++) {
            ask("line", u, 0, up(13));
            ask("line", u, 1, up(400));
        }
        while (left > 0 && !wrong) {
            step();
        }
    }

    private void setYear() {
        StringBuilder bytes = new StringBuilder();
        for (int i = 0; i < 40; i++) {
            int h = random.nextInt(3) == 0 ? 0 : random.nextInt(120);
            bytes.append((char) (h >> 8)).append((char) (h & 255));
        }
        feed(bytes.substring(0, 2 * up(41)));
        ask("row");
    }

    private void feed(String text) {
        ask("end", 0);
        int[] n = Calls.numbers(text);
        for (int i = 0; i < n.length; i += 5) {
            ask("feed", n[i], n[i + 1], n[i + 2], n[i + 3], n[i + 4]);
        }
        ask("end", text.length());
    }

    private void step() {
        int draw = random.nextInt(100);
        if (draw < 5) {
            String text = new LawText(random).text();
            feed(text);
            ask("law");
            ask("fault");
            ask("force", up(due.now.laws.size() + 1) - 1);
        } else if (draw < 6) {
            setYear();
        } else if (draw < 12) {
            int sort = up(4);
            int a = sort == 2 ? up(7) : random.nextBoolean() ? useCell() : up(100);
            ask("work", sort, a, sort == 3 ? up(100) : 1 + up(9), up(30));
        } else if (draw < 16) {
            ask("put", up(100), up(3), up(10));
        } else if (draw < 20) {
            ask("put", up(100), 2, up(4));
        } else if (draw < 22) {
            ask("place", near(useCell()));
            ask("glass", up(3));
        } else if (draw < 27) {
            nearTower();
        } else if (draw < 28) {
            ask("end", 0);
            for (int i = up(21); i > 0; i--) {
                ask("feed", up(400), up(400) << 16, up(70), up(300) << 16 | up(70), up(50));
            }
            ask("end", Math.max(0, due.tape.length() - up(20)));
            ask("row");
            ask("torn");
        } else {
            String[] one = Calls.FACE[random.nextInt(Calls.FACE.length)];
            boolean dear = one[0].equals("share") || one[0].equals("least") || one[0].equals("site");
            if (dear && random.nextInt(4) != 0) {
                return;
            }
            if (one[0].equals("back") && random.nextInt(3) != 0) {
                return;
            }
            int[] a = new int[one[1].length()];
            for (int i = 0; i < a.length; i++) {
                a[i] = number(one[1].charAt(i));
            }
            ask(one[0], a);
            ask("status");
        }
    }

    /** What is asked of a CELL beside a TOWER, where most things happen. */
    private void nearTower() {
        if (due.now.towers.isEmpty()) {
            return;
        }
        int tower = up(due.now.towers.size());
        Oracle.Tower t = due.now.towers.get(tower);
        int cell = near(10 * (t.y + up(t.deep)) + t.x + up(t.wide));
        int way = up(4);
        int pace = up(10);
        ask("odds", tower, cell, way, pace, 0);
        ask("odds", tower, cell, way, pace, 1);
        ask("kind", cell, way, up(7));
        ask("salt", cell, way, up(12));
        ask("curve", cell, way, up(10), 1 + up(5));
        ask("above", cell, up(14));
    }

    private int near(int cell) {
        int x = Math.max(0, Math.min(9, cell % 10 + up(5) - 2));
        int y = Math.max(0, Math.min(9, cell / 10 + up(5) - 2));
        return 10 * y + x;
    }

    private int useCell() {
        for (int i = 0; i < 200; i++) {
            int c = up(100);
            if (due.now.thing[2][c] != 0) {
                return c;
            }
        }
        return up(100);
    }

    private int up(int n) {
        return random.nextInt(n);
    }

    private int number(char sort) {
        int wild = random.nextInt(60);
        if (wild == 0) {
            int[] far = {-1, -2, 1000, 10000, Integer.MIN_VALUE, Integer.MAX_VALUE, 100, -100};
            return far[up(far.length)];
        }
        switch (sort) {
            case 'x': case 'y': return up(10);
            case 'w': case 'd': return up(12) == 0 ? up(7) : 1 + up(3);
            case 'h': return up(12) == 0 ? up(43) : 1 + up(40);
            case 't': return up(7);
            case 'c': return random.nextInt(20) == 0 ? up(102) - 1 : up(100);
            case 'C': return random.nextInt(4) == 0 ? -1 : random.nextBoolean() ? useCell() : up(101);
            case 'a': return up(12) == 0 ? up(5) - 1 : up(3);
            case 'b': return up(12) == 0 ? up(4) - 1 : up(2);
            case 'v': return up(11);
            case 'u': return up(12) == 0 ? up(5) : 1 + up(3);
            case 'l': return up(4) == 0 ? up(10100) : up(101);
            case 'i': return up(12) == 0 ? up(6) - 1 : up(4);
            case 'p': return up(12) == 0 ? up(12) - 1 : up(10);
            case 'n': return up(12) == 0 ? up(1002) : up(130);
            case '*': return random.nextInt();
            case 'e': return up(12) == 0 ? up(402) - 1 : up(due.tape.length() + 2);
            case 'f': return up(due.now.laws.size() + 3) - 2;
            case 'g': return up(9) - 1;
            case 'q': return up(4) == 0 ? up(10002) : up(20);
            case 'j': return up(6) == 0 ? up(102) - 1 : up(8) - 1;
            case 'k': return up(6);
            case 's': return up(11);
            case 'z': return up(7);
            case 'o': return up(5);
            case 'm': return up(4) == 0 ? up(8) : up(101);
            case 'r': return up(10) - 1;
            case 'B': return up(8) == 0 ? up(260) - 1 : up(1 << due.now.works.size());
            case 'S': return up(12) == 0 ? 999_990 + up(20) : up(1_000_001);
            case 'H': return up(25);
            case '#': return up(15) - 1;
            default: throw new IllegalStateException("sort " + sort);
        }
    }
}
