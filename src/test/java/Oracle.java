import java.math.BigInteger;
import java.util.ArrayList;
import java.util.Arrays;
import java.util.Comparator;
import java.util.List;

/**
 * The document once more, read anew and written in the most naive way, to compare answers with:
 * cells by x and y, towers as objects, laws walked as text each time, shares by all orders.
 */
final class Oracle {
    static final class Tower {
        int x, y, wide, deep, high;

        Tower(int x, int y, int wide, int deep, int high) {
            this.x = x;
            this.y = y;
            this.wide = wide;
            this.deep = deep;
            this.high = high;
        }

        Tower copy() {
            return new Tower(x, y, wide, deep, high);
        }

        boolean stands(int cx, int cy) {
            return cx >= x && cx < x + wide && cy >= y && cy < y + deep;
        }
    }

    static final class World {
        List<Tower> towers = new ArrayList<>();
        int[][] thing = new int[3][100];
        int[][] line = {{0, 99, 99, 99}, {0, 0, 0, 0}};
        int[][] year = new int[4][10];
        List<String> laws = new ArrayList<>();
        int force = -1;
        List<int[]> works = new ArrayList<>();
        List<Integer> places = new ArrayList<>();

        World copy() {
            World w = new World();
            for (Tower t : towers) {
                w.towers.add(t.copy());
            }
            for (int i = 0; i < 3; i++) {
                w.thing[i] = thing[i].clone();
            }
            for (int i = 0; i < 2; i++) {
                w.line[i] = line[i].clone();
            }
            for (int i = 0; i < 4; i++) {
                w.year[i] = year[i].clone();
            }
            w.laws.addAll(laws);
            w.force = force;
            for (int[] k : works) {
                w.works.add(k.clone());
            }
            w.places.addAll(places);
            return w;
        }

        Tower towerAt(int x, int y) {
            for (Tower t : towers) {
                if (t.stands(x, y)) {
                    return t;
                }
            }
            return null;
        }

        boolean ground(int cell) {
            return cell >= 0 && cell < 100 && towerAt(cell % 10, cell / 10) == null;
        }

        int thingAt(int which, int x, int y) {
            return x < 0 || x > 9 || y < 0 || y > 9 ? 0 : thing[which][10 * y + x];
        }

        void raise(Tower t) {
            towers.add(t);
            for (int c = 0; c < 100; c++) {
                if (t.stands(c % 10, c / 10)) {
                    thing[0][c] = thing[1][c] = thing[2][c] = 0;
                }
            }
        }

        static final int[] DX = {0, 1, 0, -1};
        static final int[] DY = {-1, 0, 1, 0};

        /** kind, rise, high, trees, screen, off. */
        int[] sight(int cell, int way) {
            int x = cell % 10, y = cell / 10, ux = DX[way], uy = DY[way];
            int sx = uy, sy = ux;
            Tower a = towerAt(x + sx, y + sy), b = towerAt(x - sx, y - sy);
            Tower down = towerAt(x - ux, y - uy);
            int[] r = new int[6];
            Tower its = null;
            if (a != null && b != null) {
                r[0] = 1;
                its = a.high >= b.high ? a : b;
            } else if (down != null) {
                r[0] = 2;
                its = down;
            } else if (a != null && towerAt(x + sx + ux, y + sy + uy) == null) {
                r[0] = 3;
                its = a;
            } else if (b != null && towerAt(x - sx + ux, y - sy + uy) == null) {
                r[0] = 3;
                its = b;
            } else {
                for (int k = 3; k >= 1; k--) {
                    Tower t = towerAt(x + k * ux, y + k * uy);
                    if (t != null) {
                        r[0] = 4;
                        its = t;
                        r[5] = k;
                    }
                }
            }
            int highest = 0;
            for (int k = 1; k <= 3; k++) {
                Tower t = towerAt(x + k * ux, y + k * uy);
                highest = Math.max(highest, t == null ? 0 : t.high);
                r[4] = Math.max(r[4], thingAt(1, x + k * ux, y + k * uy));
            }
            if (its != null) {
                r[2] = its.high;
                r[1] = Math.max(0, its.high - highest);
            }
            for (int k = 0; k <= 2; k++) {
                r[3] += thingAt(0, x + k * ux, y + k * uy);
            }
            return r;
        }

        int quick(int cell, int way) {
            int[] s = sight(cell, way);
            int told = -1;
            if (force >= 0) {
                told = new Text(laws.get(force)).quick(s, cell, way);
            }
            if (told >= 0) {
                return told;
            }
            return new int[] {100, 180, 100 + 2 * s[1], 150 + s[1], 40}[s[0]];
        }

        int above(int cell, int pace) {
            int sum = 0;
            for (int w = 0; w < 4; w++) {
                int q = quick(cell, w);
                for (int p = 0; p < 10; p++) {
                    if (p * q > 100 * pace) {
                        sum += year[w][p];
                    }
                }
            }
            return sum;
        }

        int over(int cell) {
            int u = thing[2][cell];
            return u == 0 || !ground(cell) ? 0 : Math.max(0, above(cell, line[0][u]) - line[1][u]);
        }

        int over() {
            int sum = 0;
            for (int c = 0; c < 100; c++) {
                sum += over(c);
            }
            return sum;
        }

        World only(int set) {
            World w = copy();
            w.towers.clear();
            for (int t = 0; t < towers.size(); t++) {
                if ((set >> t & 1) == 1) {
                    w.towers.add(towers.get(t).copy());
                }
            }
            return w;
        }

        int whyNotTower(int x, int y, int wide, int deep, int high) {
            if (x < 0 || x > 9 || y < 0 || y > 9 || wide < 1 || wide > 5 || deep < 1 || deep > 5
                    || high < 1 || high > 40 || x + wide > 10 || y + deep > 10) {
                return -1;
            }
            Tower t = new Tower(x, y, wide, deep, high);
            for (int c = 0; c < 100; c++) {
                if (t.stands(c % 10, c / 10)) {
                    boolean taken = !ground(c) || places.contains(c);
                    for (int[] k : works) {
                        taken |= k[0] != 2 && k[1] == c || k[0] == 3 && k[2] == c;
                    }
                    if (taken) {
                        return -3;
                    }
                }
            }
            return towers.size() == 6 ? -5 : 0;
        }

        World done(int bits) {
            World w = copy();
            for (int i = 0; i < works.size(); i++) {
                if ((bits >> i & 1) == 0) {
                    continue;
                }
                int[] k = works.get(i);
                if (k[0] == 0) {
                    w.thing[0][k[1]] = Math.min(9, w.thing[0][k[1]] + k[2]);
                } else if (k[0] == 1) {
                    w.thing[1][k[1]] = Math.max(k[2], w.thing[1][k[1]]);
                } else if (k[0] == 2) {
                    Tower t = w.towers.get(k[1]);
                    t.high = Math.max(1, t.high - k[2]);
                } else {
                    w.thing[2][k[2]] = w.thing[2][k[1]];
                    w.thing[2][k[1]] = 0;
                }
            }
            return w;
        }

        int coin(int bits) {
            int sum = 0;
            for (int i = 0; i < works.size(); i++) {
                sum += (bits >> i & 1) == 1 ? works.get(i)[3] : 0;
            }
            return sum;
        }

        int allHours() {
            return Arrays.stream(year).flatMapToInt(Arrays::stream).sum();
        }
    }

    /** A LAW's TEXT: read for faults, or walked with numbers for its words. */
    static final class Text {
        static final class Fault extends RuntimeException {
            private static final long serialVersionUID = 1L;
            final int place;

            Fault(int place) {
                super(null, null, false, false);
                this.place = place;
            }
        }

        static final BigInteger MOST = BigInteger.valueOf(1_000_000_000L);
        static final List<String> WORDS = List.of("kind", "rise", "high", "trees", "screen", "off",
                "x", "y", "way");
        final List<String> tokens = new ArrayList<>();
        final List<Integer> places = new ArrayList<>();
        int next;
        int parts;
        int[] words = new int[9];

        Text(String text) {
            int i = 0;
            while (i < text.length()) {
                int from = i;
                char c = text.charAt(i);
                if (c == ' ') {
                    i++;
                    continue;
                }
                String set = c >= 'a' && c <= 'z' ? "abcdefghijklmnopqrstuvwxyz"
                        : c >= '0' && c <= '9' ? "0123456789" : null;
                i++;
                while (set != null && i < text.length() && set.indexOf(text.charAt(i)) >= 0) {
                    i++;
                }
                tokens.add(text.substring(from, i));
                places.add(from);
            }
            tokens.add("");
            places.add(text.length());
        }

        int fault() {
            try {
                law();
                return -1;
            } catch (Fault f) {
                return f.place;
            }
        }

        int quick(int[] sight, int cell, int way) {
            System.arraycopy(sight, 0, words, 0, 6);
            words[6] = cell % 10;
            words[7] = cell / 10;
            words[8] = way;
            return law();
        }

        private boolean on(String t) {
            return tokens.get(next).equals(t);
        }

        private void want(String t) {
            if (!on(t)) {
                throw new Fault(places.get(next));
            }
            next++;
        }

        private int law() {
            next = 0;
            parts = 0;
            int told = -1;
            for (int n = 1;; n++) {
                if (n > 12) {
                    throw new Fault(places.get(next));
                }
                want("quick");
                BigInteger sum = sum(0);
                Boolean holds = true;
                if (on("if")) {
                    next++;
                    holds = test(0, true);
                }
                if (holds != null && holds && sum != null) {
                    told = sum.max(BigInteger.ZERO).min(BigInteger.valueOf(999)).intValue();
                }
                if (on("")) {
                    return told;
                }
                want(";");
            }
        }

        /** null: BROKEN. Not asked: read alone, answering true. */
        private Boolean test(int depth, boolean asked) {
            Boolean so = both(depth, asked);
            while (on("or")) {
                next++;
                boolean matters = asked && so != null && !so;
                Boolean more = both(depth, matters);
                so = matters ? more : so;
            }
            return so;
        }

        private Boolean both(int depth, boolean asked) {
            Boolean so = plain(depth, asked);
            while (on("and")) {
                next++;
                boolean matters = asked && so != null && so;
                Boolean more = plain(depth, matters);
                so = matters ? more : so;
            }
            return so;
        }

        private Boolean plain(int depth, boolean asked) {
            if (on("not")) {
                next++;
                Boolean so = plain(depth, asked);
                return so == null ? null : Boolean.valueOf(!so);
            }
            if (on("(")) {
                deeper(depth);
                Boolean so = test(depth + 1, asked);
                want(")");
                return so;
            }
            BigInteger a = sum(depth);
            String sign = tokens.get(next);
            if (!sign.equals("<") && !sign.equals(">") && !sign.equals("=")) {
                throw new Fault(places.get(next));
            }
            next++;
            BigInteger b = sum(depth);
            if (!asked) {
                return true;
            }
            if (a == null || b == null) {
                return null;
            }
            int c = a.compareTo(b);
            return sign.equals("<") ? c < 0 : sign.equals(">") ? c > 0 : c == 0;
        }

        private void deeper(int depth) {
            if (depth == 8) {
                throw new Fault(places.get(next));
            }
            next++;
        }

        private static BigInteger in(BigInteger n) {
            return n.abs().compareTo(MOST) > 0 ? null : n;
        }

        private BigInteger sum(int depth) {
            BigInteger a = term(depth);
            while (on("+") || on("-")) {
                boolean plus = on("+");
                next++;
                BigInteger b = term(depth);
                a = a == null || b == null ? null : in(plus ? a.add(b) : a.subtract(b));
            }
            return a;
        }

        private BigInteger term(int depth) {
            BigInteger a = part(depth);
            while (on("*") || on("/")) {
                boolean times = on("*");
                next++;
                BigInteger b = part(depth);
                if (a == null || b == null || !times && b.signum() == 0) {
                    a = null;
                } else {
                    a = in(times ? a.multiply(b) : a.divide(b));
                }
            }
            return a;
        }

        private BigInteger part(int depth) {
            String t = tokens.get(next);
            if (t.equals("[")) {
                deeper(depth);
                BigInteger a = sum(depth + 1);
                want("]");
                return a;
            }
            BigInteger value = null;
            if (!t.isEmpty() && Character.isDigit(t.charAt(0)) && t.charAt(0) < 128) {
                value = new BigInteger(t);
                if (value.compareTo(BigInteger.valueOf(1000)) > 0) {
                    value = null;
                }
            } else if (WORDS.contains(t)) {
                value = BigInteger.valueOf(words[WORDS.indexOf(t)]);
            }
            if (value == null || parts == 50) {
                throw new Fault(places.get(next));
            }
            parts++;
            next++;
            return value;
        }
    }

    World now = new World();
    final World[] images = new World[2];
    final StringBuilder tape = new StringBuilder();
    int fault = -1;
    int torn = 0;
    int[] drawn = null;
    final int[] refused = new int[7];
    int status = 0;

    private static boolean in(int n, int from, int to) {
        return n >= from && n <= to;
    }

    private int refuse(int why) {
        status = why;
        refused[-why]++;
        return why;
    }

    private int yes(int answer) {
        status = 0;
        return answer;
    }

    long call(String name, int[] a) {
        switch (name) {
            case "tower": {
                int why = now.whyNotTower(a[0], a[1], a[2], a[3], a[4]);
                if (why != 0) {
                    return refuse(why);
                }
                now.raise(new Tower(a[0], a[1], a[2], a[3], a[4]));
                return yes(now.towers.size() - 1);
            }
            case "high": {
                if (!in(a[1], 1, 40)) {
                    return refuse(-1);
                }
                if (!in(a[0], 0, now.towers.size() - 1)) {
                    return refuse(-2);
                }
                Tower t = now.towers.get(a[0]);
                int was = t.high;
                t.high = a[1];
                return yes(was);
            }
            case "at":
                return in(a[0], 0, 99) ? now.towers.indexOf(now.towerAt(a[0] % 10, a[0] / 10)) : -1;
            case "put": {
                if (!in(a[0], 0, 99) || !in(a[1], 0, 2) || !in(a[2], 0, a[1] == 2 ? 3 : 9)) {
                    return refuse(-1);
                }
                if (!now.ground(a[0])) {
                    return refuse(-3);
                }
                int was = now.thing[a[1]][a[0]];
                now.thing[a[1]][a[0]] = a[2];
                return yes(was);
            }
            case "of":
                return now.ground(a[0]) && in(a[1], 0, 2) ? now.thing[a[1]][a[0]] : -1;
            case "line": {
                if (!in(a[0], 1, 3) || !in(a[1], 0, 1) || !in(a[2], 0, a[1] == 0 ? 99 : 9999)) {
                    return refuse(-1);
                }
                int was = now.line[a[1]][a[0]];
                now.line[a[1]][a[0]] = a[2];
                return yes(was);
            }
            case "hours": {
                if (!in(a[0], 0, 3) || !in(a[1], 0, 9) || !in(a[2], 0, 999)) {
                    return refuse(-1);
                }
                int was = now.year[a[0]][a[1]];
                now.year[a[0]][a[1]] = a[2];
                return yes(was);
            }
            case "feed": {
                if (tape.length() + 20 > 400) {
                    return -1;
                }
                for (int n : a) {
                    for (int k = 3; k >= 0; k--) {
                        tape.append((char) (n >> 8 * k & 255));
                    }
                }
                return tape.length();
            }
            case "end": {
                if (!in(a[0], 0, tape.length())) {
                    return -1;
                }
                tape.setLength(a[0]);
                return a[0];
            }
            case "row": return row();
            case "torn": return torn;
            case "law": return law();
            case "fault": return fault;
            case "force": {
                if (!in(a[0], -1, now.laws.size() - 1)) {
                    return refuse(-2);
                }
                int was = now.force;
                now.force = a[0];
                return yes(was);
            }
            default: return ask(name, a);
        }
    }

    private int row() {
        if (tape.length() == 0) {
            return refuse(-6);
        }
        torn = 0;
        for (int i = 0; i < tape.length(); i += 2) {
            if (i + 1 == tape.length()) {
                torn++;
            } else if (i >= 80) {
                torn += 2;
            } else {
                now.year[i / 20][i / 2 % 10] =
                        Math.min(999, (tape.charAt(i) << 8) + tape.charAt(i + 1));
            }
        }
        tape.setLength(0);
        return yes(now.allHours());
    }

    private int law() {
        String text = tape.toString();
        tape.setLength(0);
        if (now.laws.size() == 6) {
            return refuse(-5);
        }
        fault = new Text(text).fault();
        if (fault >= 0) {
            return refuse(-6);
        }
        now.laws.add(text);
        return yes(now.laws.size() - 1);
    }

    private long ask(String name, int[] a) {
        boolean ground = a.length > 0 && now.ground(a[0]);
        switch (name) {
            case "kind":
                if (!ground || !in(a[1], 0, 3) || !in(a[2], 0, 6)) {
                    return -1;
                }
                return a[2] == 6 ? now.quick(a[0], a[1]) : now.sight(a[0], a[1])[a[2]];
            case "above":
                return ground && in(a[1], 0, 9999) ? now.above(a[0], a[1]) : -1;
            case "over":
                return a[0] == -1 ? now.over() : ground ? now.over(a[0]) : -1;
            case "bad": {
                List<Integer> bad = badCells();
                return a[0] == -1 ? bad.size() : in(a[0], 0, bad.size() - 1) ? bad.get(a[0]) : -1;
            }
            case "kinds": {
                if (!in(a[0], 0, 4) || !in(a[1], 0, 3)) {
                    return -1;
                }
                int n = 0;
                for (int c = 0; c < 100; c++) {
                    n += now.ground(c) && now.sight(c, a[1])[0] == a[0] ? 1 : 0;
                }
                return n;
            }
            case "does": {
                int n = now.towers.size();
                return in(a[0], 0, n - 1)
                        ? now.over() - now.only((1 << n) - 1 - (1 << a[0])).over() : -1000000000;
            }
            case "share": {
                if (!in(a[0], 0, now.towers.size() - 1)) {
                    return -1000000000000L;
                }
                return share(a[0]);
            }
            case "ahead":
                return now.whyNotTower(a[0], a[1], a[2], a[3], a[4]) != 0 ? -1
                        : overAhead(a[0], a[1], a[2], a[3], a[4]);
            case "site": return site(a);
            case "curve": {
                if (!ground || !in(a[1], 0, 3) || !in(a[2], 0, 9) || !in(a[3], 1, 5)) {
                    return -1;
                }
                int x = a[0] % 10 - a[3] * World.DX[a[1]], y = a[0] / 10 - a[3] * World.DY[a[1]];
                if (!in(x, 0, 9) || !in(y, 0, 9) || !now.ground(10 * y + x)) {
                    return -1;
                }
                World w = now.copy();
                w.thing[1][a[0]] = a[2];
                return w.quick(10 * y + x, a[1]);
            }
            case "seat": {
                if (!in(a[0], 1, 3)) {
                    return -1;
                }
                List<Integer> free = new ArrayList<>();
                int[] above = new int[100];
                for (int c = 0; c < 100; c++) {
                    if (now.ground(c) && now.thing[2][c] == 0) {
                        free.add(c);
                        above[c] = now.above(c, now.line[0][a[0]]);
                    }
                }
                free.sort(Comparator.comparingInt(c -> above[c]));
                return in(a[1], 0, free.size() - 1) ? free.get(a[1]) : -1;
            }
            default: return plan(name, a);
        }
    }

    private List<Integer> badCells() {
        List<Integer> bad = new ArrayList<>();
        int[] over = new int[100];
        for (int c = 0; c < 100; c++) {
            over[c] = now.over(c);
            if (over[c] > 0) {
                bad.add(c);
            }
        }
        bad.sort(Comparator.comparingInt(c -> -over[c]));
        return bad;
    }

    /** Goes through every order of building, which is why it is only asked now and then. */
    private long share(int tower) {
        int n = now.towers.size();
        int[] over = new int[1 << n];
        for (int set = 0; set < 1 << n; set++) {
            over[set] = now.only(set).over();
        }
        long[] sumAndOrders = new long[2];
        orders(0, n, tower, over, sumAndOrders);
        return sumAndOrders[0] * 720 / sumAndOrders[1];
    }

    private static void orders(int built, int n, int tower, int[] over, long[] sum) {
        if (built == (1 << n) - 1) {
            sum[1]++;
            return;
        }
        for (int t = 0; t < n; t++) {
            if ((built >> t & 1) == 0) {
                long before = sum[1];
                orders(built | 1 << t, n, tower, over, sum);
                if (t == tower) {
                    sum[0] += (sum[1] - before) * (over[built | 1 << t] - over[built]);
                }
            }
        }
    }

    private int overAhead(int x, int y, int wide, int deep, int high) {
        World w = now.copy();
        w.raise(new Tower(x, y, wide, deep, high));
        return w.over();
    }

    private int site(int[] a) {
        if (!in(a[3], 0, 2)) {
            return -1;
        }
        int best = -1, over = -1, n = 0;
        for (int c = 0; c < 100; c++) {
            if (now.whyNotTower(c % 10, c / 10, a[0], a[1], a[2]) == 0) {
                n++;
                int o = overAhead(c % 10, c / 10, a[0], a[1], a[2]);
                if (best < 0 || o < over) {
                    best = c;
                    over = o;
                }
            }
        }
        return a[3] == 0 ? best : a[3] == 1 ? over : n;
    }

    private long plan(String name, int[] a) {
        switch (name) {
            case "work": {
                if (!in(a[0], 0, 3) || !in(a[3], 0, 999)) {
                    return refuse(-1);
                }
                if (a[0] != 2 && !in(a[1], 0, 99)) {
                    return refuse(-1);
                }
                if (a[0] == 3 ? !in(a[2], 0, 99) || a[1] == a[2] : !in(a[2], 1, 9)) {
                    return refuse(-1);
                }
                if (a[0] == 2 && !in(a[1], 0, now.towers.size() - 1)) {
                    return refuse(-2);
                }
                if (a[0] != 2 && !now.ground(a[1]) || a[0] == 3 && !now.ground(a[2])) {
                    return refuse(-3);
                }
                if (now.works.size() == 8) {
                    return refuse(-5);
                }
                now.works.add(a.clone());
                return yes(now.works.size() - 1);
            }
            case "drop": {
                if (!in(a[0], 0, now.works.size() - 1)) {
                    return refuse(-2);
                }
                now.works.remove(a[0]);
                return yes(now.works.size());
            }
            case "done": return done(a[0], a[1]);
            case "least": {
                if (!in(a[0], 0, 2)) {
                    return -1;
                }
                int best = -1, over = 0, coin = 0;
                for (int bits = 0; bits < 1 << now.works.size(); bits++) {
                    int o = now.done(bits).over(), c = now.coin(bits);
                    if (best < 0 || o < over || o == over && c < coin) {
                        best = bits;
                        over = o;
                        coin = c;
                    }
                }
                return a[0] == 0 ? coin : a[0] == 1 ? best : over;
            }
            case "build": {
                if (!in(a[0], 0, (1 << now.works.size()) - 1)) {
                    return refuse(-1);
                }
                World w = now.done(a[0]);
                w.works.clear();
                for (int i = 0; i < now.works.size(); i++) {
                    if ((a[0] >> i & 1) == 0) {
                        w.works.add(now.works.get(i));
                    }
                }
                now = w;
                return yes(now.over());
            }
            case "place": {
                if (!in(a[0], 0, 99)) {
                    return refuse(-1);
                }
                if (!now.ground(a[0]) || now.places.contains(a[0])) {
                    return refuse(-3);
                }
                if (now.places.size() == 12) {
                    return refuse(-5);
                }
                now.places.add(a[0]);
                return yes(now.places.size() - 1);
            }
            case "glass": return glass(a[0]);
            default: return rest(name, a);
        }
    }

    private int done(int bits, int what) {
        if (!in(bits, 0, (1 << now.works.size()) - 1) || !in(what, 0, 3)) {
            return -1;
        }
        World w = now.done(bits);
        int hurt = 0, lowest = -1;
        for (int c = 99; c >= 0; c--) {
            int u = w.thing[2][c];
            if (u != 0 && w.above(c, now.line[0][u]) > now.above(c, now.line[0][u])) {
                hurt++;
                lowest = c;
            }
        }
        return what == 0 ? w.over() : what == 1 ? hurt : what == 2 ? lowest : now.coin(bits);
    }

    private int glass(int what) {
        if (!in(what, 0, 2)) {
            return -1;
        }
        List<Integer> bad = badCells();
        for (int n = 0; n <= now.places.size(); n++) {
            int sets = 0, lowest = -1;
            for (int set = 0; set < 1 << now.places.size(); set++) {
                if (Integer.bitCount(set) == n && watched(bad, set)) {
                    lowest = lowest < 0 ? set : lowest;
                    sets++;
                }
            }
            if (sets > 0) {
                return what == 0 ? n : what == 1 ? lowest : sets;
            }
        }
        return what == 2 ? 0 : -1;
    }

    private boolean watched(List<Integer> bad, int set) {
        for (int c : bad) {
            boolean seen = false;
            for (int i = 0; i < now.places.size(); i++) {
                int p = now.places.get(i);
                seen |= (set >> i & 1) == 1
                        && Math.abs(p % 10 - c % 10) + Math.abs(p / 10 - c / 10) <= 3;
            }
            if (!seen) {
                return false;
            }
        }
        return true;
    }

    private long rest(String name, int[] a) {
        switch (name) {
            case "salt": {
                if (!in(a[1], 0, 3) || !in(a[2], 0, 9999)) {
                    return -1;
                }
                if (a[0] == -1) {
                    int n = 0;
                    for (int c = 0; c < 100; c++) {
                        n += now.ground(c) && 9 * now.quick(c, a[1]) > 100 * a[2] ? 1 : 0;
                    }
                    return n;
                }
                for (int p = 0; now.ground(a[0]) && p < 10; p++) {
                    if (p * now.quick(a[0], a[1]) > 100 * a[2]) {
                        return p;
                    }
                }
                return -1;
            }
            case "odds": return odds(a);
            case "day": return day(a[0]);
            case "drawn":
                return drawn != null && in(a[0], 0, 23) && in(a[1], 0, 1)
                        ? drawn[2 * a[0] + a[1]] : -1;
            case "image":
                if (!in(a[0], 0, 1)) {
                    return refuse(-1);
                }
                images[a[0]] = now.copy();
                return yes(0);
            case "back":
                if (!in(a[0], 0, 1)) {
                    return refuse(-1);
                }
                if (images[a[0]] == null) {
                    return refuse(-2);
                }
                now = images[a[0]].copy();
                return yes(0);
            case "count": return count(a[0]);
            case "status": return status;
            default: throw new IllegalArgumentException(name);
        }
    }

    private int odds(int[] a) {
        int n = now.towers.size();
        if (!in(a[0], 0, n - 1) || !now.ground(a[1]) || !in(a[2], 0, 3) || !in(a[3], 0, 9)
                || !in(a[4], 0, 1)) {
            return -1;
        }
        int q = now.quick(a[1], a[2]);
        int r = now.only((1 << n) - 1 - (1 << a[0])).quick(a[1], a[2]);
        int all = 0, part = 0;
        for (int p = 0; p < 10; p++) {
            if (p * q >= a[3] * q) {
                all += now.year[a[2]][p];
                if (p * r < a[3] * q) {
                    part += now.year[a[2]][p];
                }
            }
        }
        if (all == 0) {
            return a[4];
        }
        int g = BigInteger.valueOf(all).gcd(BigInteger.valueOf(part)).intValue();
        return a[4] == 0 ? part / g : all / g;
    }

    private int day(int seed) {
        if (!in(seed, 0, 1000000)) {
            return refuse(-1);
        }
        int all = now.allHours();
        if (all == 0) {
            return refuse(-3);
        }
        drawn = new int[48];
        long s = seed;
        int quickHours = 0;
        for (int h = 0; h < 24; h++) {
            s = (s * 1103 + 12345) % 1000003;
            int d = (int) (s % all), sum = 0, i = 0;
            while (d >= sum + now.year[i / 10][i % 10]) {
                sum += now.year[i / 10][i % 10];
                i++;
            }
            drawn[2 * h] = i / 10;
            drawn[2 * h + 1] = i % 10;
            boolean some = false;
            for (int c = 0; c < 100 && !some; c++) {
                int u = now.thing[2][c];
                some = u != 0 && now.quick(c, i / 10) * (i % 10) > 100 * now.line[0][u];
            }
            quickHours += some ? 1 : 0;
        }
        return yes(quickHours);
    }

    private int count(int what) {
        switch (what) {
            case 0: return now.towers.size();
            case 1: {
                int n = 0;
                for (int c = 0; c < 100; c++) {
                    n += now.ground(c) ? 1 : 0;
                }
                return n;
            }
            case 2: return now.laws.size();
            case 3: return now.works.size();
            case 4: return now.places.size();
            case 5: return now.allHours();
            case 6: return tape.length();
            case 7: return refused[1];
            case 8: return refused[2];
            case 9: return refused[3];
            case 10: return refused[5];
            case 11: return refused[6];
            case 12: return now.force;
            default: return -1;
        }
    }
}
