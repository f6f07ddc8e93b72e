import java.util.Arrays;

/**
 * A square at the foot of towers: how quick the wind is in each of its cells, where that is too
 * quick for people, which tower does it, and what could be done about it.
 *
 * <p>The words in capitals are those of the document. No call throws; what can't be answered is
 * told by NONE or by a number below 0.
 */
public final class TowerFoot {
    public static final int NONE = -1;

    private static final int CANT_BE = -1;
    private static final int NO_SUCH = -2;
    private static final int IN_THE_WAY = -3;
    private static final int NO_ROOM = -5;
    private static final int UNREADABLE = -6;

    private static final int NO_DOES = -1000000000;
    private static final long NO_SHARE = -1000000000000L;

    private static final int EDGE = 10;
    private static final int CELLS = 100;
    private static final int WAYS = 4;
    private static final int PACES = 10;
    private static final int USES = 3;
    private static final int DAY_HOURS = 24;

    private static final int TOWERS_MOST = 6;
    private static final int SETS_OF_TOWERS = 64;
    private static final int WIDE_MOST = 5;
    private static final int HIGH_MOST = 40;
    private static final int GREEN_MOST = 9;
    private static final int LINE_PACE_MOST = 99;
    private static final int LINE_HOURS_MOST = 9999;
    private static final int HOURS_MOST = 999;
    private static final int TOLD_PACE_MOST = 9999;
    private static final int WORKS_MOST = 8;
    private static final int BY_MOST = 9;
    private static final int COIN_MOST = 999;
    private static final int PLACES_MOST = 12;
    private static final int WATCHES = 3;
    private static final int CURVE_MOST = 5;
    private static final int SEED_MOST = 1000000;
    private static final int IMAGES = 2;

    private static final int MORE_TREES = 0;
    private static final int MORE_SCREEN = 1;
    private static final int LESS_HIGH = 2;
    private static final int MOVED_USE = 3;

    private static final int TAPE_MOST = 400;
    private static final int LAWS_MOST = 6;
    private static final int CLAUSES_MOST = 12;
    private static final int PARTS_MOST = 50;
    private static final int BRACKETS_MOST = 8;
    private static final int NUMBER_MOST = 1000;
    private static final int SUM_MOST = 1000000000;
    private static final int QUICK_MOST = 999;

    // The square lies in a wider grid, so that three CELLS beyond its edge can be asked like any.
    private static final int GRID = 16;
    private static final int MARGIN = 3;
    private static final int SPOTS = 256;
    private static final int[] UP = {-16, 1, 16, -1};
    private static final int[] BESIDE = {1, 16, 1, 16};

    private static final int OPEN = 0;
    private static final int PASSAGE = 1;
    private static final int FRONT = 2;
    private static final int CORNER = 3;
    private static final int LEE = 4;

    // What is seen of a CELL by a WAY, in the order that kind() numbers it.
    private static final int SEEN_KIND = 0;
    private static final int SEEN_RISE = 1;
    private static final int SEEN_HIGH = 2;
    private static final int SEEN_TREES = 3;
    private static final int SEEN_SCREEN = 4;
    private static final int SEEN_OFF = 5;
    private static final int SEEN_X = 6;
    private static final int SEEN_Y = 7;
    private static final int SEEN_WAY = 8;
    private static final int SEEN = 9;
    private static final int ASKED_QUICK = 6;

    // A step of a LAW's code: what it does in the low bits, a number with it above them.
    private static final int STEP_BITS = 4;
    private static final int STEP_MASK = 15;
    private static final int STEP_NUMBER = 0;
    private static final int STEP_WORD = 1;
    private static final int STEP_PLUS = 2;
    private static final int STEP_MINUS = 3;
    private static final int STEP_TIMES = 4;
    private static final int STEP_THROUGH = 5;
    private static final int STEP_LESS = 6;
    private static final int STEP_MORE = 7;
    private static final int STEP_ALIKE = 8;
    private static final int STEP_NOT = 9;
    private static final int STEP_AND = 10;
    private static final int STEP_OR = 11;
    private static final int BROKEN = -1000000001;
    private static final int STACK = 64;

    // TOKENS: words first, single bytes from SIGN on, NUMBERS by how much they are behind those.
    private static final int TOKEN_END = 0;
    private static final int TOKEN_QUICK = 1;
    private static final int TOKEN_IF = 2;
    private static final int TOKEN_OR = 3;
    private static final int TOKEN_AND = 4;
    private static final int TOKEN_NOT = 5;
    private static final int TOKEN_STRANGE = 6;
    private static final int TOKEN_SEEN = 16;
    private static final int SIGN = 1000;
    private static final int TOKEN_NUMBER = 2000;

    private static final int REMEMBERED_BITS = 10;
    private static final long SCATTER = 6364136223846793005L;
    private static final int NO_KEY = -1000000001;
    // In how many orders so many TOWERS can be built, and how often each is one of 720.
    private static final int[] ORDERS = {1, 1, 2, 6, 24, 120, 720};
    private static final int[] OF_720 = {720, 720, 360, 120, 30, 6, 1};

    private final Square square = new Square();
    private final Square[] images = new Square[IMAGES];
    private final Wind wind = new Wind();
    private final Trials trials = new Trials();
    private final LawReader reader = new LawReader();
    private final int[] keys = new int[CELLS];
    private final int[] tape = new int[TAPE_MOST];
    private int tapeBytes = 0;
    private int tornBytes = 0;
    private int faultPlace = NONE;
    private final int[] dayHours = new int[DAY_HOURS];
    private boolean dayDrawn = false;
    private final int[] refusals = new int[-UNREADABLE + 1];
    private int latestRefusal = 0;

    public TowerFoot() {
    }

    public int tower(int x, int y, int wide, int deep, int high) {
        int why = square.whyNoTower(x, y, wide, deep, high);
        if (why != 0) {
            return refuse(why);
        }
        square.ground.stand(x, y, wide, deep, high);
        return accept(square.towers.add(x, y, wide, deep));
    }

    public int high(int tower, int high) {
        if (!isWithin(high, 1, HIGH_MOST)) {
            return refuse(CANT_BE);
        }
        if (!square.towers.has(tower)) {
            return refuse(NO_SUCH);
        }
        int was = square.towers.highOf(tower, square.ground);
        square.towers.makeHigh(tower, high, square.ground);
        return accept(was);
    }

    public int at(int cell) {
        return isCell(cell) ? square.towers.in(cell) : NONE;
    }

    public int put(int cell, int what, int value) {
        int most = what == 2 ? USES : GREEN_MOST;
        if (!isCell(cell) || !isWithin(what, 0, 2) || !isWithin(value, 0, most)) {
            return refuse(CANT_BE);
        }
        if (!square.isGround(cell)) {
            return refuse(IN_THE_WAY);
        }
        int[] row = square.ground.rowOf(what);
        int spot = spotOf(cell);
        int was = row[spot];
        row[spot] = value;
        return accept(was);
    }

    public int of(int cell, int what) {
        if (!square.isGround(cell) || !isWithin(what, 0, 2)) {
            return NONE;
        }
        return square.ground.rowOf(what)[spotOf(cell)];
    }

    public int line(int use, int what, int value) {
        int most = what == 0 ? LINE_PACE_MOST : LINE_HOURS_MOST;
        if (!isWithin(use, 1, USES) || !isWithin(what, 0, 1) || !isWithin(value, 0, most)) {
            return refuse(CANT_BE);
        }
        int[] row = what == 0 ? square.linePaces : square.lineHours;
        int was = row[use];
        row[use] = value;
        return accept(was);
    }

    public int hours(int way, int pace, int hours) {
        if (!isWay(way) || !isPace(pace) || !isWithin(hours, 0, HOURS_MOST)) {
            return refuse(CANT_BE);
        }
        return accept(square.setHours(way, pace, hours));
    }

    public int feed(int a, int b, int c, int d, int e) {
        if (tapeBytes + 20 > TAPE_MOST) {
            return NONE;
        }
        feedOne(a);
        feedOne(b);
        feedOne(c);
        feedOne(d);
        feedOne(e);
        return tapeBytes;
    }

    private void feedOne(int number) {
        for (int shift = 24; shift >= 0 && tapeBytes < TAPE_MOST; shift -= 8) {
            tape[tapeBytes] = (number >>> shift) & 255;
            tapeBytes++;
        }
    }

    public int end(int n) {
        if (!isWithin(n, 0, tapeBytes)) {
            return NONE;
        }
        tapeBytes = n;
        return n;
    }

    public int row() {
        if (tapeBytes == 0) {
            return refuse(UNREADABLE);
        }
        int told = Math.min(tapeBytes / 2, WAYS * PACES);
        for (int i = 0; i < told; i++) {
            int hours = tape[2 * i] * 256 + tape[2 * i + 1];
            square.setHours(i / PACES, i % PACES, Math.min(hours, HOURS_MOST));
        }
        tornBytes = tapeBytes - 2 * told;
        tapeBytes = 0;
        return accept(square.allHours());
    }

    public int torn() {
        return tornBytes;
    }

    public int law() {
        int bytes = tapeBytes;
        tapeBytes = 0;
        if (square.lawsMany >= LAWS_MOST) {
            return refuse(NO_ROOM);
        }
        Law law = reader.read(tape, bytes);
        faultPlace = reader.faultPlace;
        if (law == null) {
            return refuse(UNREADABLE);
        }
        return accept(square.addLaw(law));
    }

    public int fault() {
        return faultPlace;
    }

    public int force(int law) {
        if (!isWithin(law, NONE, square.lawsMany - 1)) {
            return refuse(NO_SUCH);
        }
        int was = square.inForce;
        square.inForce = law;
        return accept(was);
    }

    public int kind(int cell, int way, int what) {
        if (!square.isGround(cell) || !isWay(way) || !isWithin(what, 0, ASKED_QUICK)) {
            return NONE;
        }
        if (what == ASKED_QUICK) {
            return wind.quick(square, square.ground, spotOf(cell), way);
        }
        wind.look(square.ground, spotOf(cell), way);
        return wind.seen[what];
    }

    public int above(int cell, int pace) {
        if (!square.isGround(cell) || !isWithin(pace, 0, TOLD_PACE_MOST)) {
            return NONE;
        }
        return wind.hoursAbove(square, square.ground, spotOf(cell), pace);
    }

    public int over(int cell) {
        if (cell != NONE && !square.isGround(cell)) {
            return NONE;
        }
        int all = wind.allOver(square, square.ground);
        return cell == NONE ? all : wind.overs[cell];
    }

    public int bad(int i) {
        wind.allOver(square, square.ground);
        int bad = 0;
        for (int cell = 0; cell < CELLS; cell++) {
            int over = wind.overs[cell];
            keys[cell] = over > 0 ? over : NO_KEY;
            bad += over > 0 ? 1 : 0;
        }
        return i == NONE ? bad : greatestKey(i);
    }

    /** The i-th CELL by its key, the greatest first, of alike ones the lower. */
    private int greatestKey(int i) {
        for (int cell = 0; cell < CELLS; cell++) {
            if (keys[cell] != NO_KEY && keysAhead(cell) == i) {
                return cell;
            }
        }
        return NONE;
    }

    private int keysAhead(int cell) {
        int ahead = 0;
        for (int other = 0; other < CELLS; other++) {
            if (keys[other] > keys[cell] || (keys[other] == keys[cell] && other < cell)) {
                ahead++;
            }
        }
        return ahead;
    }

    public int kinds(int kind, int way) {
        if (!isWithin(kind, OPEN, LEE) || !isWay(way)) {
            return NONE;
        }
        int many = 0;
        for (int cell = 0; cell < CELLS; cell++) {
            if (square.isGround(cell)) {
                wind.look(square.ground, spotOf(cell), way);
                many += wind.seen[SEEN_KIND] == kind ? 1 : 0;
            }
        }
        return many;
    }

    public int does(int tower) {
        if (!square.towers.has(tower)) {
            return NO_DOES;
        }
        trials.ground.become(square.ground);
        square.towers.makeHigh(tower, 0, trials.ground);
        return wind.allOver(square, square.ground) - wind.allOver(square, trials.ground);
    }

    public long share(int tower) {
        if (!square.towers.has(tower)) {
            return NO_SHARE;
        }
        trials.learnTowerOvers(square, wind);
        return trials.shareOf(tower, square.towers.many);
    }

    public int ahead(int x, int y, int wide, int deep, int high) {
        if (square.whyNoTower(x, y, wide, deep, high) != 0) {
            return NONE;
        }
        trials.ground.become(square.ground);
        trials.ground.stand(x, y, wide, deep, high);
        return wind.allOver(square, trials.ground);
    }

    public int site(int wide, int deep, int high, int what) {
        if (!isWithin(what, 0, 2)) {
            return NONE;
        }
        trials.findSite(square, wind, wide, deep, high);
        if (what == 2) {
            return trials.sites;
        }
        return what == 0 ? trials.siteCell : trials.siteOver;
    }

    public int curve(int cell, int way, int screen, int k) {
        if (!square.isGround(cell) || !isWay(way) || !isWithin(screen, 0, GREEN_MOST)
                || !isWithin(k, 1, CURVE_MOST)) {
            return NONE;
        }
        int x = cell % EDGE - k * stepX(way);
        int y = cell / EDGE - k * stepY(way);
        if (!isOnEdge(x) || !isOnEdge(y) || !square.isGround(y * EDGE + x)) {
            return NONE;
        }
        trials.ground.become(square.ground);
        trials.ground.screens[spotOf(cell)] = screen;
        return wind.quick(square, trials.ground, spotAt(x, y), way);
    }

    public int seat(int use, int i) {
        if (!isWithin(use, 1, USES)) {
            return NONE;
        }
        for (int cell = 0; cell < CELLS; cell++) {
            int spot = spotOf(cell);
            boolean free = square.isGround(cell) && square.ground.uses[spot] == 0;
            keys[cell] = !free ? NO_KEY
                    : -wind.hoursAbove(square, square.ground, spot, square.linePaces[use]);
        }
        return greatestKey(i);
    }

    public int work(int sort, int a, int b, int coin) {
        int why = square.whyNoWork(sort, a, b, coin);
        return why != 0 ? refuse(why) : accept(square.works.add(sort, a, b, coin));
    }

    public int drop(int work) {
        if (!isWithin(work, 0, square.works.many - 1)) {
            return refuse(NO_SUCH);
        }
        square.works.takeOut(work);
        return accept(square.works.many);
    }

    public int done(int works, int what) {
        if (!square.works.haveAll(works) || !isWithin(what, 0, 3)) {
            return NONE;
        }
        if (what == 3) {
            return square.works.coinOf(works);
        }
        trials.doWorks(square, works);
        if (what == 0) {
            return wind.allOver(square, trials.ground);
        }
        return what == 1 ? trials.hurtCells(square, wind) : trials.lowestHurt(square, wind);
    }

    public int least(int what) {
        if (!isWithin(what, 0, 2)) {
            return NONE;
        }
        trials.findLeast(square, wind);
        if (what == 1) {
            return trials.leastBits;
        }
        return what == 0 ? trials.leastCoin : trials.leastOver;
    }

    public int build(int works) {
        if (!square.works.haveAll(works)) {
            return refuse(CANT_BE);
        }
        for (int work = 0; work < square.works.many; work++) {
            if ((works >> work & 1) == 1) {
                square.doWork(work, square.ground);
            }
        }
        for (int work = WORKS_MOST - 1; work >= 0; work--) {
            if ((works >> work & 1) == 1) {
                square.works.takeOut(work);
            }
        }
        return accept(wind.allOver(square, square.ground));
    }

    public int place(int cell) {
        if (!isCell(cell)) {
            return refuse(CANT_BE);
        }
        if (!square.isGround(cell) || square.hasPlaceIn(cell)) {
            return refuse(IN_THE_WAY);
        }
        if (square.placesMany >= PLACES_MOST) {
            return refuse(NO_ROOM);
        }
        return accept(square.addPlace(cell));
    }

    public int glass(int what) {
        if (!isWithin(what, 0, 2)) {
            return NONE;
        }
        int bad = gatherWatchers();
        int fewest = PLACES_MOST + 1;
        int which = NONE;
        int sets = 0;
        for (int set = 0; set < 1 << square.placesMany; set++) {
            int glasses = Integer.bitCount(set);
            if (glasses <= fewest && watchesAll(set, bad)) {
                sets = glasses < fewest ? 1 : sets + 1;
                which = glasses < fewest ? set : which;
                fewest = glasses;
            }
        }
        if (what == 2) {
            return sets;
        }
        return what == 1 || which == NONE ? which : fewest;
    }

    /** For each BAD CELL a row of bits, the PLACES that watch it, in keys: how many there are. */
    private int gatherWatchers() {
        wind.allOver(square, square.ground);
        int bad = 0;
        for (int cell = 0; cell < CELLS; cell++) {
            if (wind.overs[cell] > 0) {
                keys[bad] = square.watchers(cell);
                bad++;
            }
        }
        return bad;
    }

    private boolean watchesAll(int set, int bad) {
        for (int i = 0; i < bad && i < CELLS; i++) {
            if ((keys[i] & set) == 0) {
                return false;
            }
        }
        return true;
    }

    public int salt(int cell, int way, int pace) {
        if (!isWay(way) || !isWithin(pace, 0, TOLD_PACE_MOST)) {
            return NONE;
        }
        if (cell == NONE) {
            return saltCells(way, pace);
        }
        if (!square.isGround(cell)) {
            return NONE;
        }
        int from = leastPaceAbove(wind.quick(square, square.ground, spotOf(cell), way), pace);
        return from < PACES ? from : NONE;
    }

    private int saltCells(int way, int pace) {
        int many = 0;
        for (int cell = 0; cell < CELLS; cell++) {
            if (square.isGround(cell)) {
                int quick = wind.quick(square, square.ground, spotOf(cell), way);
                many += leastPaceAbove(quick, pace) < PACES ? 1 : 0;
            }
        }
        return many;
    }

    public int odds(int tower, int cell, int way, int pace, int what) {
        if (!square.towers.has(tower) || !square.isGround(cell) || !isWay(way) || !isPace(pace)
                || !isWithin(what, 0, 1)) {
            return NONE;
        }
        int quick = wind.quick(square, square.ground, spotOf(cell), way);
        trials.ground.become(square.ground);
        square.towers.makeHigh(tower, 0, trials.ground);
        int without = wind.quick(square, trials.ground, spotOf(cell), way);
        int all = 0;
        int part = 0;
        for (int p = 0; p < PACES; p++) {
            if (p * quick >= pace * quick) {
                int hours = square.year[way * PACES + p];
                all += hours;
                part += p * without < pace * quick ? hours : 0;
            }
        }
        int common = greatestDivisor(all, part);
        if (common <= 0) {
            return what;
        }
        return what == 0 ? part / common : all / common;
    }

    public int day(int seed) {
        if (!isWithin(seed, 0, SEED_MOST)) {
            return refuse(CANT_BE);
        }
        int all = square.allHours();
        if (all <= 0) {
            return refuse(IN_THE_WAY);
        }
        int s = seed;
        for (int hour = 0; hour < DAY_HOURS; hour++) {
            s = (s * 1103 + 12345) % 1000003;
            dayHours[hour] = square.hourOf(s % all);
        }
        dayDrawn = true;
        return accept(tooQuickHours());
    }

    /** In how many HOURS of the latest DAY some CELL with a USE has a pace above its LINE's. */
    private int tooQuickHours() {
        int many = 0;
        for (int way = 0; way < WAYS; way++) {
            int from = square.wayHours[way] > 0
                    ? wind.leastPaceOverLines(square, square.ground, way) : PACES;
            for (int hour = 0; hour < DAY_HOURS; hour++) {
                int drawn = dayHours[hour];
                many += drawn / PACES == way && drawn % PACES >= from ? 1 : 0;
            }
        }
        return many;
    }

    public int drawn(int hour, int what) {
        if (!dayDrawn || !isWithin(hour, 0, DAY_HOURS - 1) || !isWithin(what, 0, 1)) {
            return NONE;
        }
        return what == 0 ? dayHours[hour] / PACES : dayHours[hour] % PACES;
    }

    public int image(int k) {
        if (!isWithin(k, 0, IMAGES - 1)) {
            return refuse(CANT_BE);
        }
        Square kept = images[k];
        if (kept == null) {
            kept = new Square();
            images[k] = kept;
        }
        kept.become(square);
        return accept(0);
    }

    public int back(int k) {
        if (!isWithin(k, 0, IMAGES - 1)) {
            return refuse(CANT_BE);
        }
        Square kept = images[k];
        if (kept == null) {
            return refuse(NO_SUCH);
        }
        square.become(kept);
        return accept(0);
    }

    public int count(int what) {
        switch (what) {
            case 0: return square.towers.many;
            case 1: return square.groundCells();
            case 2: return square.lawsMany;
            case 3: return square.works.many;
            case 4: return square.placesMany;
            case 5: return square.allHours();
            case 6: return tapeBytes;
            case 7: return refusals[-CANT_BE];
            case 8: return refusals[-NO_SUCH];
            case 9: return refusals[-IN_THE_WAY];
            case 10: return refusals[-NO_ROOM];
            case 11: return refusals[-UNREADABLE];
            case 12: return square.inForce;
            default: return NONE;
        }
    }

    public int status() {
        return latestRefusal;
    }

    private int refuse(int why) {
        latestRefusal = why;
        if (isWithin(-why, 0, refusals.length - 1)) {
            refusals[-why]++;
        }
        return why;
    }

    private int accept(int answer) {
        latestRefusal = 0;
        trials.forget();
        return answer;
    }

    private static boolean isWithin(int number, int least, int most) {
        return number >= least && number <= most;
    }

    private static boolean isCell(int cell) {
        return cell >= 0 && cell < CELLS;
    }

    private static boolean isWay(int way) {
        return way >= 0 && way < WAYS;
    }

    private static boolean isPace(int pace) {
        return pace >= 0 && pace < PACES;
    }

    private static boolean isOnEdge(int number) {
        return number >= 0 && number < EDGE;
    }

    private static int spotAt(int x, int y) {
        return (y + MARGIN) * GRID + x + MARGIN;
    }

    private static int spotOf(int cell) {
        return spotAt(cell % EDGE, cell / EDGE);
    }

    private static int stepX(int way) {
        return way == 1 ? 1 : way == 3 ? -1 : 0;
    }

    private static int stepY(int way) {
        return way == 0 ? -1 : way == 2 ? 1 : 0;
    }

    /** The least pace of the wind by which the pace there is above a told one; PACES for none. */
    private static int leastPaceAbove(int quick, int told) {
        return quick <= 0 ? PACES : Math.min(PACES, 100 * told / quick + 1);
    }

    private static int greatestDivisor(int a, int b) {
        int greater = a;
        int less = b;
        for (int i = 0; i < 64 && less != 0; i++) {
            int rest = greater % less;
            greater = less;
            less = rest;
        }
        return greater;
    }

    /** What stands in each CELL; how HIGH a TOWER is stands here alone, 0 being ground. */
    private static final class Ground {
        final int[] tall = new int[SPOTS];
        final int[] trees = new int[SPOTS];
        final int[] screens = new int[SPOTS];
        final int[] uses = new int[SPOTS];

        void become(Ground other) {
            System.arraycopy(other.tall, 0, tall, 0, SPOTS);
            System.arraycopy(other.trees, 0, trees, 0, SPOTS);
            System.arraycopy(other.screens, 0, screens, 0, SPOTS);
            System.arraycopy(other.uses, 0, uses, 0, SPOTS);
        }

        /** Makes these CELLS so HIGH (0: open ground); either way nothing else is in them. */
        void stand(int x, int y, int wide, int deep, int high) {
            for (int row = Math.max(y, 0); row < y + deep && row < EDGE; row++) {
                for (int column = Math.max(x, 0); column < x + wide && column < EDGE; column++) {
                    int spot = spotAt(column, row);
                    tall[spot] = high;
                    trees[spot] = 0;
                    screens[spot] = 0;
                    uses[spot] = 0;
                }
            }
        }

        int[] rowOf(int what) {
            return what == 0 ? trees : what == 1 ? screens : uses;
        }
    }

    /** Where the TOWERS are. */
    private static final class Towers {
        final int[] left = new int[TOWERS_MOST];
        final int[] north = new int[TOWERS_MOST];
        final int[] wide = new int[TOWERS_MOST];
        final int[] deep = new int[TOWERS_MOST];
        int many = 0;

        void become(Towers other) {
            System.arraycopy(other.left, 0, left, 0, TOWERS_MOST);
            System.arraycopy(other.north, 0, north, 0, TOWERS_MOST);
            System.arraycopy(other.wide, 0, wide, 0, TOWERS_MOST);
            System.arraycopy(other.deep, 0, deep, 0, TOWERS_MOST);
            many = other.many;
        }

        int add(int x, int y, int itsWide, int itsDeep) {
            if (many >= TOWERS_MOST) {
                return NONE;
            }
            left[many] = x;
            north[many] = y;
            wide[many] = itsWide;
            deep[many] = itsDeep;
            many++;
            return many - 1;
        }

        boolean has(int tower) {
            return tower >= 0 && tower < many;
        }

        int in(int cell) {
            int x = cell % EDGE;
            int y = cell / EDGE;
            for (int tower = 0; tower < many; tower++) {
                if (x >= left[tower] && x < left[tower] + wide[tower]
                        && y >= north[tower] && y < north[tower] + deep[tower]) {
                    return tower;
                }
            }
            return NONE;
        }

        int highOf(int tower, Ground ground) {
            return has(tower) ? ground.tall[spotAt(left[tower], north[tower])] : 0;
        }

        void makeHigh(int tower, int high, Ground ground) {
            if (has(tower)) {
                ground.stand(left[tower], north[tower], wide[tower], deep[tower], high);
            }
        }
    }

    /** The WORKS that could be done; first and second are what the document calls a and b. */
    private static final class Works {
        final int[] sort = new int[WORKS_MOST];
        final int[] first = new int[WORKS_MOST];
        final int[] second = new int[WORKS_MOST];
        final int[] coin = new int[WORKS_MOST];
        int many = 0;

        void become(Works other) {
            System.arraycopy(other.sort, 0, sort, 0, WORKS_MOST);
            System.arraycopy(other.first, 0, first, 0, WORKS_MOST);
            System.arraycopy(other.second, 0, second, 0, WORKS_MOST);
            System.arraycopy(other.coin, 0, coin, 0, WORKS_MOST);
            many = other.many;
        }

        int add(int itsSort, int a, int b, int itsCoin) {
            if (many >= WORKS_MOST) {
                return NONE;
            }
            sort[many] = itsSort;
            first[many] = a;
            second[many] = b;
            coin[many] = itsCoin;
            many++;
            return many - 1;
        }

        void takeOut(int work) {
            if (work < 0 || work >= many) {
                return;
            }
            for (int i = work; i + 1 < many; i++) {
                sort[i] = sort[i + 1];
                first[i] = first[i + 1];
                second[i] = second[i + 1];
                coin[i] = coin[i + 1];
            }
            many--;
        }

        boolean haveAll(int bits) {
            return bits >= 0 && bits < 1 << many;
        }

        boolean needCell(int cell) {
            for (int work = 0; work < many; work++) {
                if (sort[work] != LESS_HIGH && first[work] == cell) {
                    return true;
                }
                if (sort[work] == MOVED_USE && second[work] == cell) {
                    return true;
                }
            }
            return false;
        }

        int coinOf(int bits) {
            int sum = 0;
            for (int work = 0; work < many; work++) {
                sum += (bits >> work & 1) * coin[work];
            }
            return sum;
        }
    }

    /** All that an IMAGE keeps. */
    private static final class Square {
        final Ground ground = new Ground();
        final Towers towers = new Towers();
        final Works works = new Works();
        final int[] linePaces = {0, LINE_PACE_MOST, LINE_PACE_MOST, LINE_PACE_MOST};
        final int[] lineHours = new int[USES + 1];
        final int[] year = new int[WAYS * PACES];
        final int[] wayHours = new int[WAYS];
        final Law[] laws = new Law[LAWS_MOST];
        int lawsMany = 0;
        int inForce = NONE;
        final int[] places = new int[PLACES_MOST];
        int placesMany = 0;

        void become(Square other) {
            ground.become(other.ground);
            towers.become(other.towers);
            works.become(other.works);
            System.arraycopy(other.linePaces, 0, linePaces, 0, USES + 1);
            System.arraycopy(other.lineHours, 0, lineHours, 0, USES + 1);
            System.arraycopy(other.year, 0, year, 0, WAYS * PACES);
            System.arraycopy(other.wayHours, 0, wayHours, 0, WAYS);
            for (int i = 0; i < LAWS_MOST; i++) {
                laws[i] = other.laws[i];
            }
            lawsMany = other.lawsMany;
            inForce = other.inForce;
            System.arraycopy(other.places, 0, places, 0, PLACES_MOST);
            placesMany = other.placesMany;
        }

        boolean isGround(int cell) {
            return isCell(cell) && ground.tall[spotOf(cell)] == 0;
        }

        int groundCells() {
            int many = 0;
            for (int cell = 0; cell < CELLS; cell++) {
                many += isGround(cell) ? 1 : 0;
            }
            return many;
        }

        int whyNoTower(int x, int y, int wide, int deep, int high) {
            if (!isOnEdge(x) || !isOnEdge(y) || !isWithin(wide, 1, WIDE_MOST)
                    || !isWithin(deep, 1, WIDE_MOST) || !isWithin(high, 1, HIGH_MOST)
                    || x + wide > EDGE || y + deep > EDGE) {
                return CANT_BE;
            }
            for (int row = y; row < y + deep; row++) {
                for (int column = x; column < x + wide; column++) {
                    int cell = row * EDGE + column;
                    if (!isGround(cell) || hasPlaceIn(cell) || works.needCell(cell)) {
                        return IN_THE_WAY;
                    }
                }
            }
            return towers.many >= TOWERS_MOST ? NO_ROOM : 0;
        }

        int whyNoWork(int sort, int a, int b, int coin) {
            if (!isWithin(sort, MORE_TREES, MOVED_USE) || !isWithin(coin, 0, COIN_MOST)) {
                return CANT_BE;
            }
            boolean moves = sort == MOVED_USE;
            if (moves ? !isCell(b) || a == b : !isWithin(b, 1, BY_MOST)) {
                return CANT_BE;
            }
            if (sort == LESS_HIGH) {
                if (!towers.has(a)) {
                    return NO_SUCH;
                }
            } else if (!isCell(a)) {
                return CANT_BE;
            } else if (!isGround(a) || (moves && !isGround(b))) {
                return IN_THE_WAY;
            }
            return works.many >= WORKS_MOST ? NO_ROOM : 0;
        }

        /** Does a WORK on this ground, which is the square's own or one on trial. */
        void doWork(int work, Ground there) {
            if (!isWithin(work, 0, works.many - 1)) {
                return;
            }
            int a = works.first[work];
            int b = works.second[work];
            if (works.sort[work] == LESS_HIGH) {
                towers.makeHigh(a, Math.max(1, towers.highOf(a, there) - b), there);
                return;
            }
            if (!isCell(a) || there.tall[spotOf(a)] != 0) {
                return;
            }
            int spot = spotOf(a);
            if (works.sort[work] == MORE_TREES) {
                there.trees[spot] = Math.min(GREEN_MOST, there.trees[spot] + b);
            } else if (works.sort[work] == MORE_SCREEN) {
                there.screens[spot] = Math.max(there.screens[spot], b);
            } else if (isCell(b) && there.tall[spotOf(b)] == 0) {
                int moved = there.uses[spot];
                there.uses[spot] = 0;
                there.uses[spotOf(b)] = moved;
            }
        }

        int setHours(int way, int pace, int hours) {
            if (!isWay(way) || !isPace(pace)) {
                return NONE;
            }
            int was = year[way * PACES + pace];
            year[way * PACES + pace] = hours;
            wayHours[way] += hours - was;
            return was;
        }

        int allHours() {
            return wayHours[0] + wayHours[1] + wayHours[2] + wayHours[3];
        }

        /** The WAY (tens) and pace (ones) up to whose HOURS with all ahead this one is below. */
        int hourOf(int hour) {
            int left = hour;
            for (int i = 0; i < WAYS * PACES; i++) {
                if (left < year[i]) {
                    return i;
                }
                left -= year[i];
            }
            return 0;
        }

        int addLaw(Law law) {
            if (lawsMany >= LAWS_MOST) {
                return NONE;
            }
            laws[lawsMany] = law;
            lawsMany++;
            return lawsMany - 1;
        }

        Law lawInForce() {
            return isWithin(inForce, 0, LAWS_MOST - 1) ? laws[inForce] : null;
        }

        int addPlace(int cell) {
            if (placesMany >= PLACES_MOST) {
                return NONE;
            }
            places[placesMany] = cell;
            placesMany++;
            return placesMany - 1;
        }

        boolean hasPlaceIn(int cell) {
            for (int place = 0; place < placesMany; place++) {
                if (places[place] == cell) {
                    return true;
                }
            }
            return false;
        }

        /** The PLACES, as bits, from which a glass watches a CELL. */
        int watchers(int cell) {
            int bits = 0;
            for (int place = 0; place < placesMany; place++) {
                int apart = Math.abs(places[place] % EDGE - cell % EDGE)
                        + Math.abs(places[place] / EDGE - cell / EDGE);
                bits |= apart <= WATCHES ? 1 << place : 0;
            }
            return bits;
        }
    }

    /** How quick it is in a CELL, and what follows from that for a year. */
    private static final class Wind {
        final int[] seen = new int[SEEN];
        final int[] overs = new int[CELLS];
        private final int[] stack = new int[STACK];
        private final long[] rememberedSights = new long[1 << REMEMBERED_BITS];
        private final int[] rememberedQuick = new int[1 << REMEMBERED_BITS];
        private Law rememberedLaw = null;

        /** Fills seen with what a LAW may ask of a spot of the square by a WAY. */
        void look(Ground ground, int spot, int way) {
            int[] tall = ground.tall;
            int up = UP[way];
            int beside = BESIDE[way];
            int one = spot + up;
            int two = one + up;
            int three = two + up;
            int ahead = Math.max(tall[one], Math.max(tall[two], tall[three]));
            int left = tall[spot - beside];
            int right = tall[spot + beside];
            int kind = OPEN;
            int high = 0;
            int off = 0;
            if (left > 0 && right > 0) {
                kind = PASSAGE;
                high = Math.max(left, right);
            } else if (tall[spot - up] > 0) {
                kind = FRONT;
                high = tall[spot - up];
            } else if (left > 0 && tall[one - beside] == 0) {
                kind = CORNER;
                high = left;
            } else if (right > 0 && tall[one + beside] == 0) {
                kind = CORNER;
                high = right;
            } else if (ahead > 0) {
                kind = LEE;
                off = tall[one] > 0 ? 1 : tall[two] > 0 ? 2 : 3;
                high = tall[spot + off * up];
            }
            seen[SEEN_KIND] = kind;
            seen[SEEN_RISE] = Math.max(0, high - ahead);
            seen[SEEN_HIGH] = high;
            seen[SEEN_TREES] = ground.trees[spot] + ground.trees[one] + ground.trees[two];
            seen[SEEN_SCREEN] = Math.max(ground.screens[one],
                    Math.max(ground.screens[two], ground.screens[three]));
            seen[SEEN_OFF] = off;
            seen[SEEN_X] = spot % GRID - MARGIN;
            seen[SEEN_Y] = spot / GRID - MARGIN;
            seen[SEEN_WAY] = way;
        }

        int quick(Square square, Ground ground, int spot, int way) {
            look(ground, spot, way);
            Law law = square.lawInForce();
            if (law == null) {
                return lawlessQuick();
            }
            if (law != rememberedLaw) {
                Arrays.fill(rememberedSights, 0);
                rememberedLaw = law;
            }
            // a LAW tells the same of the same sight: trials need not ask it over and over
            long sight = sightSeen();
            int slot = (int) (sight * SCATTER >>> 64 - REMEMBERED_BITS);
            if (rememberedSights[slot] != sight) {
                int told = law.tells(seen, stack);
                rememberedSights[slot] = sight;
                rememberedQuick[slot] = told == NONE ? lawlessQuick() : told;
            }
            return rememberedQuick[slot];
        }

        private int lawlessQuick() {
            switch (seen[SEEN_KIND]) {
                case PASSAGE: return 180;
                case FRONT: return 100 + 2 * seen[SEEN_RISE];
                case CORNER: return 150 + seen[SEEN_RISE];
                case LEE: return 40;
                default: return 100;
            }
        }

        /** All that is seen in one number, which is never 0. */
        private long sightSeen() {
            long sight = 1;
            for (int i = 0; i < SEEN; i++) {
                sight = sight << 6 | seen[i];
            }
            return sight;
        }

        int hoursAbove(Square square, Ground ground, int spot, int pace) {
            int sum = 0;
            for (int way = 0; way < WAYS; way++) {
                if (square.wayHours[way] > 0) {
                    int from = leastPaceAbove(quick(square, ground, spot, way), pace);
                    for (int p = from; p < PACES; p++) {
                        sum += square.year[way * PACES + p];
                    }
                }
            }
            return sum;
        }

        /** OVER of all CELLS together; that of each stands in overs then. */
        int allOver(Square square, Ground ground) {
            int sum = 0;
            for (int cell = 0; cell < CELLS; cell++) {
                int spot = spotOf(cell);
                int use = ground.uses[spot];
                int over = 0;
                if (isWithin(use, 1, USES)) {
                    int above = hoursAbove(square, ground, spot, square.linePaces[use]);
                    over = Math.max(0, above - square.lineHours[use]);
                }
                overs[cell] = over;
                sum += over;
            }
            return sum;
        }

        /** From which pace of this WAY on some CELL with a USE is above its LINE's PACE. */
        int leastPaceOverLines(Square square, Ground ground, int way) {
            int least = PACES;
            for (int cell = 0; cell < CELLS; cell++) {
                int spot = spotOf(cell);
                int use = ground.uses[spot];
                if (isWithin(use, 1, USES)) {
                    int quick = quick(square, ground, spot, way);
                    least = Math.min(least, leastPaceAbove(quick, square.linePaces[use]));
                }
            }
            return least;
        }
    }

    /** What would be if the square were another one; dear findings stay until it changes. */
    private static final class Trials {
        final Ground ground = new Ground();
        private final int[] towerOvers = new int[SETS_OF_TOWERS];
        private boolean towerOversKnown = false;
        int leastBits = NONE;
        int leastCoin = NONE;
        int leastOver = NONE;
        private boolean leastKnown = false;
        int siteCell = NONE;
        int siteOver = NONE;
        int sites = 0;
        private int siteShape = NONE;

        void forget() {
            towerOversKnown = false;
            leastKnown = false;
            siteShape = NONE;
        }

        /** OVER of all CELLS for each set of TOWERS, as bits, that could have stood alone. */
        void learnTowerOvers(Square square, Wind wind) {
            if (towerOversKnown) {
                return;
            }
            towerOversKnown = true;
            for (int set = 0; set < 1 << square.towers.many && set < SETS_OF_TOWERS; set++) {
                ground.become(square.ground);
                for (int tower = 0; tower < square.towers.many; tower++) {
                    if ((set >> tower & 1) == 0) {
                        square.towers.makeHigh(tower, 0, ground);
                    }
                }
                towerOvers[set] = wind.allOver(square, ground);
            }
        }

        /** The TOWERS ahead and those behind could each have been built in any order. */
        long shareOf(int tower, int many) {
            if (!isWithin(many, 1, TOWERS_MOST) || !isWithin(tower, 0, many - 1)) {
                return NO_SHARE;
            }
            long sum = 0;
            for (int set = 0; set < 1 << many; set++) {
                if ((set >> tower & 1) == 0) {
                    int before = Integer.bitCount(set);
                    long orders = (long) ORDERS[before] * ORDERS[many - 1 - before];
                    sum += orders * (towerOvers[set | 1 << tower] - towerOvers[set]);
                }
            }
            return sum * OF_720[many];
        }

        void findSite(Square square, Wind wind, int wide, int deep, int high) {
            int shape = isWithin(wide, 1, WIDE_MOST) && isWithin(deep, 1, WIDE_MOST)
                    && isWithin(high, 1, HIGH_MOST) ? (high * 10 + deep) * 10 + wide : 0;
            if (shape == siteShape) {
                return;
            }
            siteShape = shape;
            siteCell = NONE;
            siteOver = NONE;
            sites = 0;
            for (int cell = 0; cell < CELLS; cell++) {
                int x = cell % EDGE;
                int y = cell / EDGE;
                if (square.whyNoTower(x, y, wide, deep, high) == 0) {
                    sites++;
                    ground.become(square.ground);
                    ground.stand(x, y, wide, deep, high);
                    int over = wind.allOver(square, ground);
                    if (siteCell == NONE || over < siteOver) {
                        siteCell = cell;
                        siteOver = over;
                    }
                }
            }
        }

        void doWorks(Square square, int bits) {
            ground.become(square.ground);
            for (int work = 0; work < square.works.many; work++) {
                if ((bits >> work & 1) == 1) {
                    square.doWork(work, ground);
                }
            }
        }

        /** No CELL is BAD where OVER is 0, so that the least OVER goes ahead of COIN and bits. */
        void findLeast(Square square, Wind wind) {
            if (leastKnown) {
                return;
            }
            leastKnown = true;
            leastBits = NONE;
            for (int bits = 0; bits < 1 << square.works.many; bits++) {
                int coin = square.works.coinOf(bits);
                if (leastBits != NONE && leastOver == 0 && coin >= leastCoin) {
                    continue;
                }
                doWorks(square, bits);
                int over = wind.allOver(square, ground);
                if (leastBits == NONE || over < leastOver
                        || (over == leastOver && coin < leastCoin)) {
                    leastBits = bits;
                    leastCoin = coin;
                    leastOver = over;
                }
            }
        }

        private boolean isHurt(Square square, Wind wind, int cell) {
            int spot = spotOf(cell);
            int use = ground.uses[spot];
            if (!isWithin(use, 1, USES)) {
                return false;
            }
            int pace = square.linePaces[use];
            return wind.hoursAbove(square, ground, spot, pace)
                    > wind.hoursAbove(square, square.ground, spot, pace);
        }

        int hurtCells(Square square, Wind wind) {
            int many = 0;
            for (int cell = 0; cell < CELLS; cell++) {
                many += isHurt(square, wind, cell) ? 1 : 0;
            }
            return many;
        }

        int lowestHurt(Square square, Wind wind) {
            for (int cell = 0; cell < CELLS; cell++) {
                if (isHurt(square, wind, cell)) {
                    return cell;
                }
            }
            return NONE;
        }
    }

    /**
     * A LAW that was read. Its code has each CLAUSE's SUM and behind that its TEST, both with what
     * is reckoned ahead of the sign; bounds tell where each of them begins and the last ends.
     */
    private static final class Law {
        private final int[] code;
        private final int[] bounds;

        Law(int[] itsCode, int[] itsBounds) {
            code = itsCode;
            bounds = itsBounds;
        }

        /** QUICK by the last CLAUSE that HOLDS; NONE without one. */
        int tells(int[] seen, int[] stack) {
            for (int clause = (bounds.length - 1) / 2 - 1; clause >= 0; clause--) {
                int test = bounds[2 * clause + 1];
                int behind = bounds[2 * clause + 2];
                if (test == behind || reckon(test, behind, seen, stack) == 1) {
                    int sum = reckon(bounds[2 * clause], test, seen, stack);
                    if (sum != BROKEN) {
                        return Math.max(0, Math.min(QUICK_MOST, sum));
                    }
                }
            }
            return NONE;
        }

        private int reckon(int from, int to, int[] seen, int[] stack) {
            int top = -1;
            for (int i = from; i >= 0 && i < to && i < code.length; i++) {
                int step = code[i] & STEP_MASK;
                int with = code[i] >> STEP_BITS;
                if (step <= STEP_WORD) {
                    top++;
                    if (top >= stack.length || with < 0) {
                        return BROKEN;
                    }
                    stack[top] = step == STEP_WORD && with < seen.length ? seen[with] : with;
                } else if (step >= STEP_NOT) {
                    if (top < 0) {
                        return BROKEN;
                    }
                    if (step == STEP_NOT) {
                        stack[top] = 1 - stack[top];
                    } else if (stack[top] == (step == STEP_OR ? 1 : 0)) {
                        // what stands behind can't matter any more; a jump only goes ahead
                        i = Math.max(i, with - 1);
                    } else {
                        top--;
                    }
                } else {
                    if (top < 1) {
                        return BROKEN;
                    }
                    top--;
                    stack[top] = joined(step, stack[top], stack[top + 1]);
                    if (stack[top] == BROKEN) {
                        return BROKEN;
                    }
                }
            }
            return top == 0 ? stack[0] : BROKEN;
        }

        private static int joined(int step, int a, int b) {
            long answer;
            switch (step) {
                case STEP_PLUS: answer = (long) a + b; break;
                case STEP_MINUS: answer = (long) a - b; break;
                case STEP_TIMES: answer = (long) a * b; break;
                case STEP_THROUGH: answer = b == 0 ? BROKEN : a / b; break;
                case STEP_LESS: answer = a < b ? 1 : 0; break;
                case STEP_MORE: answer = a > b ? 1 : 0; break;
                default: answer = a == b ? 1 : 0; break;
            }
            return answer > SUM_MOST || answer < -SUM_MOST ? BROKEN : (int) answer;
        }
    }

    /** Reads a TEXT as a LAW. A method that reads answers whether it could. */
    private static final class LawReader {
        private final int[] code = new int[TAPE_MOST + 1];
        private int codeSteps = 0;
        private final int[] bounds = new int[2 * CLAUSES_MOST + 1];
        private final Tokens tokens = new Tokens();
        private int reached = 0;
        private int token = TOKEN_END;
        private int parts = 0;
        int faultPlace = NONE;

        /** The LAW, or null with faultPlace. */
        Law read(int[] bytes, int many) {
            tokens.cut(bytes, many);
            reached = 0;
            token = tokens.sorts[0];
            codeSteps = 0;
            parts = 0;
            faultPlace = NONE;
            for (int clause = 0; clause < CLAUSES_MOST; clause++) {
                if (!readClause(clause)) {
                    return null;
                }
                if (token == TOKEN_END) {
                    return new Law(Arrays.copyOf(code, codeSteps),
                            Arrays.copyOf(bounds, 2 * clause + 3));
                }
                if (!pass(SIGN + ';')) {
                    return null;
                }
            }
            failHere();
            return null;
        }

        private boolean readClause(int clause) {
            if (clause < 0 || clause >= CLAUSES_MOST) {
                return failHere();
            }
            bounds[2 * clause] = codeSteps;
            if (!pass(TOKEN_QUICK) || !readSum(0)) {
                return false;
            }
            bounds[2 * clause + 1] = codeSteps;
            if (token == TOKEN_IF) {
                next();
                if (!readTest(0)) {
                    return false;
                }
            }
            bounds[2 * clause + 2] = codeSteps;
            return true;
        }

        private boolean readTest(int depth) {
            int jumps = NONE;
            for (int i = 0; i <= TAPE_MOST; i++) {
                if (!readBoth(depth)) {
                    return false;
                }
                if (token != TOKEN_OR) {
                    break;
                }
                next();
                jumps = addJump(STEP_OR, jumps);
            }
            landHere(jumps);
            return true;
        }

        private boolean readBoth(int depth) {
            int jumps = NONE;
            for (int i = 0; i <= TAPE_MOST; i++) {
                if (!readPlain(depth)) {
                    return false;
                }
                if (token != TOKEN_AND) {
                    break;
                }
                next();
                jumps = addJump(STEP_AND, jumps);
            }
            landHere(jumps);
            return true;
        }

        /** Until its end is known, a jump holds where the one ahead of it stands. */
        private int addJump(int step, int jumpAhead) {
            add(step, jumpAhead);
            return codeSteps - 1;
        }

        /** These jumps, each of which holds the one ahead of it, go to the next step. */
        private void landHere(int jumps) {
            int jump = jumps;
            for (int i = 0; i <= TAPE_MOST && jump >= 0 && jump < codeSteps; i++) {
                int ahead = code[jump] >> STEP_BITS;
                code[jump] = code[jump] & STEP_MASK | codeSteps << STEP_BITS;
                jump = ahead;
            }
        }

        private boolean readPlain(int depth) {
            int nots = 0;
            while (token == TOKEN_NOT && nots <= TAPE_MOST) {
                nots++;
                next();
            }
            if (token == SIGN + '(') {
                if (depth >= BRACKETS_MOST) {
                    return failHere();
                }
                next();
                if (!readTest(depth + 1) || !pass(SIGN + ')')) {
                    return false;
                }
            } else if (!readComparison(depth)) {
                return false;
            }
            if (nots % 2 == 1) {
                add(STEP_NOT, 0);
            }
            return true;
        }

        private boolean readComparison(int depth) {
            if (!readSum(depth)) {
                return false;
            }
            int step;
            if (token == SIGN + '<') {
                step = STEP_LESS;
            } else if (token == SIGN + '>') {
                step = STEP_MORE;
            } else if (token == SIGN + '=') {
                step = STEP_ALIKE;
            } else {
                return failHere();
            }
            next();
            if (!readSum(depth)) {
                return false;
            }
            add(step, 0);
            return true;
        }

        private boolean readSum(int depth) {
            if (!readTerm(depth)) {
                return false;
            }
            for (int i = 0; i <= TAPE_MOST && (token == SIGN + '+' || token == SIGN + '-'); i++) {
                int step = token == SIGN + '+' ? STEP_PLUS : STEP_MINUS;
                next();
                if (!readTerm(depth)) {
                    return false;
                }
                add(step, 0);
            }
            return true;
        }

        private boolean readTerm(int depth) {
            if (!readPart(depth)) {
                return false;
            }
            for (int i = 0; i <= TAPE_MOST && (token == SIGN + '*' || token == SIGN + '/'); i++) {
                int step = token == SIGN + '*' ? STEP_TIMES : STEP_THROUGH;
                next();
                if (!readPart(depth)) {
                    return false;
                }
                add(step, 0);
            }
            return true;
        }

        private boolean readPart(int depth) {
            if (token == SIGN + '[') {
                if (depth >= BRACKETS_MOST) {
                    return failHere();
                }
                next();
                return readSum(depth + 1) && pass(SIGN + ']');
            }
            boolean number = isWithin(token, TOKEN_NUMBER, TOKEN_NUMBER + NUMBER_MOST);
            boolean word = token >= TOKEN_SEEN && token < TOKEN_SEEN + SEEN;
            if ((!number && !word) || parts >= PARTS_MOST) {
                return failHere();
            }
            parts++;
            add(number ? STEP_NUMBER : STEP_WORD, token - (number ? TOKEN_NUMBER : TOKEN_SEEN));
            next();
            return true;
        }

        private boolean pass(int wanted) {
            if (token != wanted) {
                return failHere();
            }
            next();
            return true;
        }

        private boolean failHere() {
            faultPlace = tokens.places[reached];
            return false;
        }

        private void add(int step, int with) {
            if (codeSteps < code.length) {
                code[codeSteps] = step | with << STEP_BITS;
                codeSteps++;
            }
        }

        /** Behind the TEXT's end there is its end again. */
        private void next() {
            reached = Math.min(reached + 1, tokens.many - 1);
            token = tokens.sorts[reached];
        }
    }

    /** A TEXT cut into TOKENS, the last of which is its end. */
    private static final class Tokens {
        final int[] sorts = new int[TAPE_MOST + 1];
        final int[] places = new int[TAPE_MOST + 1];
        int many = 0;
        private int[] text = new int[0];
        private int length = 0;

        void cut(int[] bytes, int bytesMany) {
            text = bytes;
            length = Math.max(0, Math.min(bytesMany, Math.min(bytes.length, TAPE_MOST)));
            many = 0;
            for (int i = 0; i < length; i++) {
                if (text[i] != ' ' && !goesOn(i)) {
                    add(sortFrom(i), i);
                }
            }
            add(TOKEN_END, length);
        }

        private void add(int sort, int place) {
            if (many < sorts.length) {
                sorts[many] = sort;
                places[many] = place;
                many++;
            }
        }

        /** Whether this byte is of the same row of letters or digits as the one ahead of it. */
        private boolean goesOn(int i) {
            return i > 0 && ((isLetter(text[i]) && isLetter(text[i - 1]))
                    || (isDigit(text[i]) && isDigit(text[i - 1])));
        }

        private int sortFrom(int from) {
            if (isLetter(text[from])) {
                return wordFrom(from);
            }
            return isDigit(text[from]) ? numberFrom(from) : SIGN + text[from];
        }

        /** What is above the greatest NUMBER, however far, counts as the next one. */
        private int numberFrom(int from) {
            int number = 0;
            for (int i = from; i < length && isDigit(text[i]); i++) {
                number = Math.min(NUMBER_MOST + 1, number * 10 + text[i] - '0');
            }
            return TOKEN_NUMBER + number;
        }

        private int wordFrom(int from) {
            return spells("quick", from) ? TOKEN_QUICK
                    : spells("if", from) ? TOKEN_IF
                    : spells("or", from) ? TOKEN_OR
                    : spells("and", from) ? TOKEN_AND
                    : spells("not", from) ? TOKEN_NOT
                    : spells("kind", from) ? TOKEN_SEEN + SEEN_KIND
                    : spells("rise", from) ? TOKEN_SEEN + SEEN_RISE
                    : spells("high", from) ? TOKEN_SEEN + SEEN_HIGH
                    : spells("trees", from) ? TOKEN_SEEN + SEEN_TREES
                    : spells("screen", from) ? TOKEN_SEEN + SEEN_SCREEN
                    : spells("off", from) ? TOKEN_SEEN + SEEN_OFF
                    : spells("x", from) ? TOKEN_SEEN + SEEN_X
                    : spells("y", from) ? TOKEN_SEEN + SEEN_Y
                    : spells("way", from) ? TOKEN_SEEN + SEEN_WAY
                    : TOKEN_STRANGE;
        }

        /** Whether the row of letters from here on is this word and no longer one. */
        private boolean spells(String word, int from) {
            int to = from + word.length();
            if (to > length || (to < length && isLetter(text[to]))) {
                return false;
            }
            for (int i = 0; i < word.length(); i++) {
                if (text[from + i] != word.charAt(i)) {
                    return false;
                }
            }
            return true;
        }

        private static boolean isLetter(int sign) {
            return sign >= 'a' && sign <= 'z';
        }

        private static boolean isDigit(int sign) {
            return sign >= '0' && sign <= '9';
        }
    }
}
