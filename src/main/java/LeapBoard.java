/**
 * Leapers on a small board with holes. No call throws: what is refused is told
 * by a number. Sets of cells, of kinds and of leapers are bits of an int.
 */
public final class LeapBoard {
    public static final int NONE = -1, UNKNOWN = -101, OUTSIDE = -102, STATE = -103, FULL = -104;

    private static final int LEAPER = 0, STEPPER = 1, SLANT = 2, FAR = 3, BOTH = 4;
    private static final int KINDS = 5;
    private static final int ALL_KINDS = 31;
    private static final String KIND_LETTERS = "kwfcb";

    private static final int MOST_CELLS = 12;
    private static final int MOST_LEAPERS = 4;
    private static final int MOST_LEAPS = 999;
    private static final int MOST_SEEN = 6;
    private static final int MOST_LETTERS = 30;
    private static final int MOST_ROWS_SEEN = 3;
    private static final int MOST_COLUMNS_SEEN = 3;
    private static final int MOST_CHANCE_LEAPS = 6;
    private static final int MOST_WALKS = 60;
    private static final int MILLION = 1000000;

    private final Page page = new Page();
    private final Ground ground = new Ground();
    private final Scene now = new Scene();
    private final Scene kept = new Scene();
    private final Scene trial = new Scene();
    private final Trips trips = new Trips();
    private final Draws draws = new Draws();
    private boolean isKept;
    private int reads;

    public LeapBoard() {
        isKept = false;
        reads = 0;
    }

    // ---- the board

    public int letter(int code) {
        if (code < 32 || code > 126) {
            return OUTSIDE;
        }
        return page.put(code) ? page.size : FULL;
    }

    public int blank() {
        return page.clear();
    }

    public int fault() {
        return page.firstFault();
    }

    public int board() {
        if (!page.isWhole()) {
            return STATE;
        }
        ground.lay(page.rows(), page.columns());
        now.free = page.freeCells();
        now.leapers = page.leapers();
        for (int i = 0; i < now.leapers && i < MOST_LEAPERS; i++) {
            now.kinds[i] = page.kindOf(i);
            now.stands[i] = page.standOf(i);
        }
        now.leaps = 0;
        now.seen = 0;
        isKept = false;
        reads++;
        page.clear();
        return ground.cells;
    }

    // ---- leapers, cells

    public int leaper(int leaper, int what) {
        if (!now.hasLeaper(leaper)) {
            return UNKNOWN;
        }
        switch (what) {
            case 0:
                return now.kindOf(leaper);
            case 1:
                return now.standOf(leaper);
            case 2:
                return watchedBy(now, leaper);
            case 3:
                return goals(now, leaper);
            case 4:
                return now.sorts(leaper);
            case 5:
                return bestAsk(now.sorts(leaper));
            case 6:
                return trips.longest(fanOfLeaper(leaper), now.standOf(leaper), now.empty());
            case 7:
                return trips.firstOfLongest(fanOfLeaper(leaper), now.standOf(leaper), now.empty());
            default:
                return OUTSIDE;
        }
    }

    public int as(int leaper, int kind) {
        if (!now.hasLeaper(leaper)) {
            return UNKNOWN;
        }
        if (!isKind(kind)) {
            return OUTSIDE;
        }
        int own = now.kindOf(leaper);
        boolean isSuch = kind == LEAPER || kind == own || (kind == STEPPER && own == BOTH);
        return isSuch ? leaper : NONE;
    }

    public int cell(int cell, int what) {
        if (!ground.hasCell(cell)) {
            return UNKNOWN;
        }
        switch (what) {
            case 0:
                return has(now.free, cell) ? 1 : 0;
            case 1:
                return now.whoStands(cell);
            case 2:
                return watchers(cell);
            default:
                return OUTSIDE;
        }
    }

    // ---- what is done

    public int leap(int leaper, int cell) {
        if (!now.hasLeaper(leaper) || !ground.hasCell(cell)) {
            return UNKNOWN;
        }
        if (!has(goals(now, leaper), cell)) {
            return STATE;
        }
        if (now.leaps >= MOST_LEAPS) {
            return FULL;
        }
        now.stands[leaper] = cell;
        now.leaps++;
        return now.leaps;
    }

    public int dig(int cell) {
        if (!ground.hasCell(cell)) {
            return UNKNOWN;
        }
        if (!has(now.empty(), cell)) {
            return STATE;
        }
        now.free &= ~(1 << cell);
        return Integer.bitCount(now.free);
    }

    public int fill(int cell) {
        if (!ground.hasCell(cell)) {
            return UNKNOWN;
        }
        if (has(now.free, cell)) {
            return STATE;
        }
        now.free |= 1 << cell;
        return Integer.bitCount(now.free);
    }

    public int be(int leaper, int kind) {
        if (!now.hasLeaper(leaper)) {
            return UNKNOWN;
        }
        if (!isKind(kind)) {
            return OUTSIDE;
        }
        int was = now.kindOf(leaper);
        now.kinds[leaper] = kind;
        return was;
    }

    // ---- what would be

    public int hops(int leaper, int cell) {
        if (!now.hasLeaper(leaper) || !ground.hasCell(cell)) {
            return UNKNOWN;
        }
        int stand = now.standOf(leaper);
        return Trips.fewest(fanOfLeaper(leaper), stand, cell, now.empty());
    }

    public int trade(int one, int other) {
        if (!now.hasLeaper(one) || !now.hasLeaper(other) || one == other) {
            return UNKNOWN;
        }
        int from = now.standOf(one);
        int to = now.standOf(other);
        int room = now.empty() | (1 << from) | (1 << to);
        return trips.fewestToTrade(fanOfLeaper(one), fanOfLeaper(other), from, to, room);
    }

    public int peace(int kind, int what) {
        if (!isKind(kind) || !isOneOfTwo(what)) {
            return OUTSIDE;
        }
        if (!now.isThere()) {
            return STATE;
        }
        int quiet = Ground.mostInPeace(ground.fanOf(kind), now.free, MOST_CELLS - 1);
        return what == 0 ? Integer.bitCount(quiet) : quiet;
    }

    public int guard(int kind, int what) {
        if (!isKind(kind) || !isOneOfTwo(what)) {
            return OUTSIDE;
        }
        if (!now.isThere()) {
            return STATE;
        }
        int guards = Ground.fewestGuards(ground.fanOf(kind), now.free, 0, 0, now.free, 0);
        return what == 0 ? Integer.bitCount(guards) : guards;
    }

    public int parts(int kind, int what) {
        if (!isKind(kind) || !isOneOfTwo(what)) {
            return OUTSIDE;
        }
        if (!now.isThere()) {
            return STATE;
        }
        int[] fan = ground.fanOf(kind);
        if (what == 0) {
            return Ground.partCount(fan, now.free);
        }
        return Ground.isTwoShaded(fan, now.free) ? 1 : 0;
    }

    public int chance(int leaper, int cell, int leaps) {
        if (!now.hasLeaper(leaper) || !ground.hasCell(cell)) {
            return UNKNOWN;
        }
        if (leaps < 0 || leaps > MOST_CHANCE_LEAPS) {
            return OUTSIDE;
        }
        int stand = now.standOf(leaper);
        int room = now.empty() | (1 << stand);
        return trips.likelihood(fanOfLeaper(leaper), stand, cell, room, leaps);
    }

    // ---- what is seen

    public int see(int leaper, int rows, int columns, boolean can) {
        if (!now.hasLeaper(leaper)) {
            return UNKNOWN;
        }
        if (rows < 0 || rows > MOST_ROWS_SEEN || columns < 0 || columns > MOST_COLUMNS_SEEN) {
            return OUTSIDE;
        }
        int sorts = goers(rows, columns);
        return now.note(leaper, can ? sorts : ALL_KINDS & ~sorts) ? now.seen : FULL;
    }

    public int forget() {
        int was = now.seen;
        now.seen = 0;
        return was;
    }

    public int walks(int times, int seed, int what) {
        if (times < 1 || times > MOST_WALKS || seed < 0 || what < 0 || what > 2) {
            return OUTSIDE;
        }
        if (!now.isThere()) {
            return STATE;
        }
        walkTrial(times, seed);
        switch (what) {
            case 0:
                return trial.leaps;
            case 1:
                return watchedEmpty(trial);
            default:
                return draws.seed;
        }
    }

    // ---- what is told of all

    public int image() {
        if (!now.isThere()) {
            return STATE;
        }
        kept.copy(now);
        isKept = true;
        return kept.leaps;
    }

    public int restore() {
        if (!isKept) {
            return STATE;
        }
        now.copy(kept);
        return now.leaps;
    }

    public int count(int what) {
        switch (what) {
            case 0:
                return ground.rows;
            case 1:
                return ground.columns;
            case 2:
                return Integer.bitCount(now.free);
            case 3:
                return now.leapers;
            case 4:
                return now.leaps;
            case 5:
                return watchedEmpty(now);
            case 6:
                return now.seen;
            case 7:
                return page.size;
            case 8:
                return reads;
            default:
                return OUTSIDE;
        }
    }

    public long digest() {
        long h = 1301;
        h = mixLeapers(h);
        h = mixCells(h);
        if (now.isThere()) {
            h = mixKinds(h);
        }
        if (now.leapers >= 2) {
            h = mix(h, trade(0, 1));
        }
        for (int place = 0; place < page.size; place++) {
            h = mix(h, page.at(place));
        }
        for (int what = 0; what <= 8; what++) {
            h = mix(h, count(what));
        }
        return h;
    }

    // ---- helpers of the digest

    private static long mix(long h, long told) {
        return 31 * h + told;
    }

    private long mixLeapers(long start) {
        long h = start;
        for (int leaper = 0; leaper < now.leapers; leaper++) {
            for (int what = 0; what <= 7; what++) {
                h = mix(h, leaper(leaper, what));
            }
            h = mix(h, hops(leaper, 0));
            h = mix(h, chance(leaper, 3, 3));
        }
        return h;
    }

    private long mixCells(long start) {
        long h = start;
        for (int cell = 0; cell < ground.cells; cell++) {
            for (int what = 0; what <= 2; what++) {
                h = mix(h, cell(cell, what));
            }
        }
        return h;
    }

    private long mixKinds(long start) {
        long h = start;
        for (int kind = 0; kind < KINDS; kind++) {
            h = mix(h, peace(kind, 0));
            h = mix(h, peace(kind, 1));
            h = mix(h, guard(kind, 0));
            h = mix(h, guard(kind, 1));
            h = mix(h, parts(kind, 0));
            h = mix(h, parts(kind, 1));
        }
        return h;
    }

    // ---- helpers that join a scene and the ground

    private int[] fanOfLeaper(int leaper) {
        return ground.fanOf(now.kindOf(leaper));
    }

    private int watchedBy(Scene scene, int leaper) {
        int[] fan = ground.fanOf(scene.kindOf(leaper));
        int stand = scene.standOf(leaper);
        return stand >= 0 && stand < fan.length ? fan[stand] & scene.free : 0;
    }

    private int goals(Scene scene, int leaper) {
        return watchedBy(scene, leaper) & scene.empty();
    }

    private int watchers(int cell) {
        int who = 0;
        for (int i = 0; i < now.leapers; i++) {
            if (has(watchedBy(now, i), cell)) {
                who |= 1 << i;
            }
        }
        return who;
    }

    private int watchedEmpty(Scene scene) {
        int watched = 0;
        for (int i = 0; i < scene.leapers; i++) {
            watched |= goals(scene, i);
        }
        return Integer.bitCount(watched);
    }

    private void walkTrial(int times, int seed) {
        trial.copy(now);
        trial.leaps = 0;
        draws.seed = seed;
        for (int i = 0; i < times; i++) {
            int leaper = draws.next(trial.leapers);
            int goals = goals(trial, leaper);
            if (goals != 0 && trial.hasLeaper(leaper)) {
                trial.stands[leaper] = nthOf(goals, draws.next(Integer.bitCount(goals)));
                trial.leaps++;
            }
        }
    }

    // ---- helpers about kinds

    private static boolean isKind(int kind) {
        return kind >= 0 && kind < KINDS;
    }

    private static boolean isOneOfTwo(int what) {
        return what == 0 || what == 1;
    }

    private static boolean goes(int kind, int rows, int columns) {
        int less = Math.min(rows, columns);
        int more = Math.max(rows, columns);
        boolean isPlain = less == 1 && more == 2;
        boolean isStep = less == 0 && more == 1;
        switch (kind) {
            case LEAPER:
                return isPlain;
            case STEPPER:
                return isStep;
            case SLANT:
                return less == 1 && more == 1;
            case FAR:
                return less == 1 && more == 3;
            case BOTH:
                return isPlain || isStep;
            default:
                return false;
        }
    }

    private static int goers(int rows, int columns) {
        int sorts = 0;
        for (int kind = 0; kind < KINDS; kind++) {
            if (goes(kind, rows, columns)) {
                sorts |= 1 << kind;
            }
        }
        return sorts;
    }

    private static int bestAsk(int sorts) {
        int best = NONE;
        if (sorts == 0) {
            return best;
        }
        int fewestLeft = KINDS + 1;
        for (int rows = 0; rows <= MOST_ROWS_SEEN; rows++) {
            for (int columns = 0; columns <= MOST_COLUMNS_SEEN; columns++) {
                int can = Integer.bitCount(sorts & goers(rows, columns));
                int left = Math.max(can, Integer.bitCount(sorts) - can);
                if (left < fewestLeft) {
                    fewestLeft = left;
                    best = 10 * rows + columns;
                }
            }
        }
        return best;
    }

    // ---- helpers about sets of cells

    private static boolean has(int set, int cell) {
        return ((set >> cell) & 1) == 1;
    }

    private static int lowestOf(int set) {
        return nthOf(set, 0);
    }

    private static int nthOf(int set, int n) {
        int ahead = 0;
        for (int cell = 0; cell < MOST_CELLS; cell++) {
            if (has(set, cell)) {
                if (ahead == n) {
                    return cell;
                }
                ahead++;
            }
        }
        return NONE;
    }

    /** THE PAGE: its letters, and whether they are a board. */
    private static final class Page {
        private static final int FIRST_SIGN = 3;
        private static final int LETTERS_A_LEAPER = 3;

        final int[] codes = new int[MOST_LETTERS];
        int size;
        // as the first two letters tell it; only where these fit it is a number of cells
        private int cells;

        boolean put(int code) {
            if (size < 0 || size >= MOST_LETTERS) {
                return false;
            }
            codes[size] = code;
            size++;
            if (size == 2) {
                cells = rows() * columns();
            }
            return true;
        }

        int clear() {
            int had = size;
            size = 0;
            cells = 0;
            return had;
        }

        int at(int place) {
            return place >= 0 && place < size && place < MOST_LETTERS ? codes[place] : NONE;
        }

        int firstFault() {
            for (int place = 0; place < size; place++) {
                if (!fits(place)) {
                    return place;
                }
            }
            return size;
        }

        boolean isWhole() {
            int behind = size - kindPlace(0);
            return firstFault() == size && behind > 0 && behind % LETTERS_A_LEAPER == LETTERS_A_LEAPER - 1;
        }

        int rows() {
            return at(0) - '0';
        }

        int columns() {
            return at(1) - '0';
        }

        int freeCells() {
            int free = 0;
            for (int cell = 0; cell < cells; cell++) {
                if (at(FIRST_SIGN + cell) == '.') {
                    free |= 1 << cell;
                }
            }
            return free;
        }

        int leapers() {
            return (size - kindPlace(0) + 1) / LETTERS_A_LEAPER;
        }

        int kindOf(int leaper) {
            return kindFor(at(kindPlace(leaper)));
        }

        int standOf(int leaper) {
            return at(kindPlace(leaper) + 1) - 'a';
        }

        private int kindPlace(int leaper) {
            return FIRST_SIGN + cells + 1 + LETTERS_A_LEAPER * leaper;
        }

        private static int kindFor(int code) {
            return KIND_LETTERS.indexOf((char) code);
        }

        /** Whether the letter at the place may stand there, if all ahead of it may. */
        private boolean fits(int place) {
            int code = at(place);
            if (place == 0) {
                return code == '2' || code == '3';
            }
            if (place == 1) {
                return code >= '2' && code <= '4';
            }
            if (place == FIRST_SIGN - 1 || place == FIRST_SIGN + cells) {
                return code == ';';
            }
            if (place < FIRST_SIGN + cells) {
                return code == '.' || code == '#';
            }
            int leaper = (place - kindPlace(0)) / LETTERS_A_LEAPER;
            int part = (place - kindPlace(0)) % LETTERS_A_LEAPER;
            if (part == 0) {
                return kindFor(code) >= 0;
            }
            if (part == 1) {
                return isOpenTo(leaper);
            }
            return code == ',' && leaper < MOST_LEAPERS - 1;
        }

        private boolean isOpenTo(int leaper) {
            int stand = standOf(leaper);
            if (stand < 0 || stand >= cells || at(FIRST_SIGN + stand) != '.') {
                return false;
            }
            for (int i = 0; i < leaper && i < MOST_LEAPERS; i++) {
                if (standOf(i) == stand) {
                    return false;
                }
            }
            return true;
        }
    }

    /** The cells, and for each kind and cell to which cells one goes from there, holes or not. */
    private static final class Ground {
        int rows;
        int columns;
        int cells;
        private final int[][] fans = new int[KINDS][MOST_CELLS];

        void lay(int newRows, int newColumns) {
            rows = newRows;
            columns = newColumns;
            cells = rows * columns;
            for (int kind = 0; kind < KINDS; kind++) {
                for (int from = 0; from < MOST_CELLS; from++) {
                    fans[kind][from] = fanFrom(kind, from);
                }
            }
        }

        boolean hasCell(int cell) {
            return cell >= 0 && cell < cells;
        }

        int[] fanOf(int kind) {
            return fans[isKind(kind) ? kind : LEAPER];
        }

        private int fanFrom(int kind, int from) {
            int fan = 0;
            if (columns <= 0 || from >= cells) {
                return fan;
            }
            for (int to = 0; to < cells && to < MOST_CELLS; to++) {
                int down = Math.abs(from / columns - to / columns);
                int across = Math.abs(from % columns - to % columns);
                if (goes(kind, down, across)) {
                    fan |= 1 << to;
                }
            }
            return fan;
        }

        static int spread(int[] fan, int set) {
            int reached = 0;
            for (int cell = 0; cell < fan.length; cell++) {
                if (((set >> cell) & 1) == 1) {
                    reached |= fan[cell];
                }
            }
            return reached;
        }

        static int partAround(int[] fan, int room, int start) {
            int part = start;
            for (int i = 0; i < MOST_CELLS; i++) {
                int more = part | (spread(fan, part) & room);
                if (more == part) {
                    return part;
                }
                part = more;
            }
            return part;
        }

        static int partCount(int[] fan, int free) {
            int left = free;
            int found = 0;
            for (int i = 0; i < MOST_CELLS && left != 0; i++) {
                left &= ~partAround(fan, free, 1 << lowestOf(left));
                found++;
            }
            return found;
        }

        static boolean isTwoShaded(int[] fan, int free) {
            int left = free;
            for (int i = 0; i < MOST_CELLS && left != 0; i++) {
                int light = 1 << lowestOf(left);
                int dark = 0;
                for (int n = 0; n < MOST_CELLS; n++) {
                    dark |= spread(fan, light) & free;
                    light |= spread(fan, dark) & free;
                }
                if ((light & dark) != 0) {
                    return false;
                }
                left &= ~(light | dark);
            }
            return true;
        }

        /**
         * The least of the largest sets of the room, none of whose cells watches another one. The
         * highest cell is looked at first, and left out where that costs nothing: so it is the least.
         */
        private static int mostInPeace(int[] fan, int room, int highest) {
            if (room == 0 || highest < 0 || highest >= fan.length) {
                return 0;
            }
            if (!has(room, highest)) {
                return mostInPeace(fan, room, highest - 1);
            }
            int bit = 1 << highest;
            int below = room & ~bit;
            int with = bit | mostInPeace(fan, below & ~fan[highest], highest - 1);
            if ((below & fan[highest]) == 0) {
                return with;
            }
            int without = mostInPeace(fan, below, highest - 1);
            return isLarger(with, without) ? with : without;
        }

        private static boolean isLarger(int set, int other) {
            return Integer.bitCount(set) > Integer.bitCount(other);
        }

        /**
         * The least of the smallest sets that guard all, or best, if none that holds the chosen ones
         * beats it. Some cell of each guarding set covers the lowest open one: no other is tried.
         */
        private static int fewestGuards(int[] fan, int free, int chosen, int covered, int best, int depth) {
            int open = free & ~covered;
            if (open == 0) {
                boolean isAhead = isLarger(best, chosen) || (!isLarger(chosen, best) && chosen < best);
                return isAhead ? chosen : best;
            }
            // one more has to be chosen at least, so that it would be more than best has
            if (!isLarger(best, chosen) || depth >= MOST_CELLS) {
                return best;
            }
            int first = lowestOf(open);
            int choices = ((1 << first) | spread(fan, 1 << first)) & free;
            int found = best;
            for (int cell = 0; cell < fan.length; cell++) {
                if (has(choices, cell)) {
                    int more = covered | fan[cell] | (1 << cell);
                    found = fewestGuards(fan, free, chosen | (1 << cell), more, found, depth + 1);
                }
            }
            return found;
        }
    }

    /** Who stands where on which cells, and what is seen of them. */
    private static final class Scene {
        int free;
        int leapers;
        int leaps;
        int seen;
        final int[] kinds = new int[MOST_LEAPERS];
        final int[] stands = new int[MOST_LEAPERS];
        final int[] seenOf = new int[MOST_SEEN];
        // of what is seen only this matters: which kinds agree with it
        final int[] seenSorts = new int[MOST_SEEN];

        boolean isThere() {
            return leapers > 0;
        }

        boolean hasLeaper(int leaper) {
            return leaper >= 0 && leaper < leapers && leaper < MOST_LEAPERS;
        }

        int kindOf(int leaper) {
            return hasLeaper(leaper) ? kinds[leaper] : NONE;
        }

        int standOf(int leaper) {
            return hasLeaper(leaper) ? stands[leaper] : NONE;
        }

        int empty() {
            int empty = free;
            for (int i = 0; i < leapers && i < MOST_LEAPERS; i++) {
                empty &= ~(1 << stands[i]);
            }
            return empty;
        }

        int whoStands(int place) {
            for (int i = 0; i < leapers && i < MOST_LEAPERS; i++) {
                if (stands[i] == place) {
                    return i;
                }
            }
            return NONE;
        }

        boolean note(int leaper, int sorts) {
            if (seen < 0 || seen >= MOST_SEEN) {
                return false;
            }
            seenOf[seen] = leaper;
            seenSorts[seen] = sorts;
            seen++;
            return true;
        }

        int sorts(int leaper) {
            int sorts = ALL_KINDS;
            for (int i = 0; i < seen && i < MOST_SEEN; i++) {
                if (seenOf[i] == leaper) {
                    sorts &= seenSorts[i];
                }
            }
            return sorts;
        }

        void copy(Scene other) {
            free = other.free;
            leapers = other.leapers;
            leaps = other.leaps;
            seen = other.seen;
            for (int i = 0; i < MOST_LEAPERS; i++) {
                kinds[i] = other.kinds[i];
                stands[i] = other.stands[i];
            }
            for (int i = 0; i < MOST_SEEN; i++) {
                seenOf[i] = other.seenOf[i];
                seenSorts[i] = other.seenSorts[i];
            }
        }
    }

    /** Ways of one leaper, or two, over a room; its rows are made once and used again by each call. */
    private static final class Trips {
        // no more states than these: one on each cell, the other one on each cell
        private static final int MOST_PAIRS = MOST_CELLS * MOST_CELLS;

        private final int[] starts = new int[1 << MOST_CELLS];
        private final int[] firsts = new int[MOST_CELLS + 1];
        private final int[] pairs = new int[MOST_CELLS];
        private final int[] nextPairs = new int[MOST_CELLS];
        private final int[] chances = new int[MOST_CELLS];
        private final int[] nextChances = new int[MOST_CELLS];

        static int fewest(int[] fan, int from, int to, int room) {
            int reached = 1 << from;
            for (int leaps = 0; leaps < MOST_CELLS; leaps++) {
                if (has(reached, to)) {
                    return leaps;
                }
                reached |= Ground.spread(fan, reached) & room;
            }
            return NONE;
        }

        int longest(int[] fan, int from, int room) {
            findFirsts(fan, from, room);
            return 1 + mostBehind();
        }

        int firstOfLongest(int[] fan, int from, int room) {
            findFirsts(fan, from, room);
            return lowestOf(firsts[mostBehind()]);
        }

        private int mostBehind() {
            for (int most = MOST_CELLS; most > 0; most--) {
                if (firsts[most] != 0) {
                    return most;
                }
            }
            return 0;
        }

        /** Finds for each number of further cells to which one can leap first on a way over so many. */
        private void findFirsts(int[] fan, int from, int room) {
            int near = from >= 0 && from < fan.length ? fan[from] : 0;
            // what cannot be reached would double the sets for each cell
            int around = Ground.partAround(fan, room, 1 << from) & room;
            for (int i = 0; i <= MOST_CELLS; i++) {
                firsts[i] = 0;
            }
            int set = 0;
            for (int i = 0; i < starts.length; i++) {
                // the next set of these cells: each set comes behind all that it holds
                set = (set - around) & around;
                if (set <= 0 || set >= starts.length) {
                    return;
                }
                int begins = startsOf(fan, set);
                starts[set] = begins;
                if ((begins & near) != 0) {
                    firsts[Integer.bitCount(set)] |= begins & near;
                }
            }
        }

        /** From which cells of a set one can leap over all of it, if that is known of the smaller ones. */
        private int startsOf(int[] fan, int set) {
            int begins = 0;
            for (int cell = 0; cell < fan.length; cell++) {
                if (has(set, cell)) {
                    int rest = set & ~(1 << cell);
                    if (rest == 0 || (rest > 0 && rest < starts.length && (starts[rest] & fan[cell]) != 0)) {
                        begins |= 1 << cell;
                    }
                }
            }
            return begins;
        }

        /** pairs tells for each cell of the one where the other one can stand then. */
        int fewestToTrade(int[] fanOfOne, int[] fanOfOther, int from, int to, int room) {
            if (from < 0 || from >= MOST_CELLS || to < 0 || to >= MOST_CELLS) {
                return NONE;
            }
            for (int cell = 0; cell < MOST_CELLS; cell++) {
                pairs[cell] = 0;
            }
            pairs[from] = 1 << to;
            for (int leaps = 0; leaps < MOST_PAIRS; leaps++) {
                if (has(pairs[to], from)) {
                    return leaps;
                }
                if (!spreadPairs(fanOfOne, fanOfOther, room)) {
                    return NONE;
                }
            }
            return NONE;
        }

        private boolean spreadPairs(int[] fanOfOne, int[] fanOfOther, int room) {
            boolean isMore = false;
            for (int cell = 0; cell < MOST_CELLS; cell++) {
                nextPairs[cell] = 0;
                if (has(room, cell) && cell < fanOfOne.length) {
                    int reached = pairs[cell] | Ground.spread(fanOfOther, pairs[cell]);
                    for (int before = 0; before < MOST_CELLS; before++) {
                        if (has(fanOfOne[cell], before)) {
                            reached |= pairs[before];
                        }
                    }
                    nextPairs[cell] = reached & room & ~(1 << cell);
                }
            }
            for (int cell = 0; cell < MOST_CELLS; cell++) {
                if (nextPairs[cell] != pairs[cell]) {
                    isMore = true;
                    pairs[cell] = nextPairs[cell];
                }
            }
            return isMore;
        }

        int likelihood(int[] fan, int from, int to, int room, int leaps) {
            if (from < 0 || from >= MOST_CELLS) {
                return 0;
            }
            for (int cell = 0; cell < MOST_CELLS; cell++) {
                chances[cell] = cell == to ? MILLION : 0;
            }
            for (int i = 0; i < leaps && i < MOST_CHANCE_LEAPS; i++) {
                addLeap(fan, room);
            }
            return chances[from];
        }

        private void addLeap(int[] fan, int room) {
            for (int cell = 0; cell < MOST_CELLS && cell < fan.length; cell++) {
                int goals = fan[cell] & room;
                int ways = Integer.bitCount(goals);
                // where none can leap, as many leaps as one likes change nothing
                nextChances[cell] = ways > 0 ? sumOver(goals) / ways : chances[cell];
            }
            for (int cell = 0; cell < MOST_CELLS; cell++) {
                chances[cell] = nextChances[cell];
            }
        }

        private int sumOver(int set) {
            int sum = 0;
            for (int cell = 0; cell < MOST_CELLS; cell++) {
                if (has(set, cell)) {
                    sum += chances[cell];
                }
            }
            return sum;
        }
    }

    /** Draws by a seed. */
    private static final class Draws {
        int seed;

        int next(int bound) {
            seed = (int) ((1103515245L * seed + 12345L) & 0x7fffffffL);
            return bound > 0 ? (seed / 65536) % bound : 0;
        }
    }
}
