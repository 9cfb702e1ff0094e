import java.math.BigInteger;
import java.util.ArrayDeque;
import java.util.ArrayList;
import java.util.HashMap;
import java.util.HashSet;
import java.util.List;
import java.util.Map;
import java.util.Random;
import java.util.Set;

/**
 * Long runs of calls by seeds: each answer is compared with that of a second program, which is
 * written plainly and tries everything (brute force). The runs hold wrong numbers, too.
 */
public final class ModelTest {
    private static final int NONE = -1, UNKNOWN = -101, OUTSIDE = -102, STATE = -103, FULL = -104;
    private static final int RUNS = 400;
    // an object is used for at most 512 calls; writing a board takes 33 of them at most
    private static final int CALLS = 512;
    private static final int CALLS_OF_A_BOARD = 33;
    private static final int[] WILD = {-1, -2, 4, 5, 12, 13, 31, 32, 60, 100, 1000, Integer.MIN_VALUE, Integer.MAX_VALUE};

    private static class Plain {
        int at;

        boolean goes(int r, int c) {
            return r * c == 2;
        }

        int number() {
            return 0;
        }

        static Plain of(int kind, int at) {
            Plain p = kind == 0 ? new Plain() : kind == 1 ? new Step() : kind == 2 ? new Slant() : kind == 3 ? new Far() : new Both();
            p.at = at;
            return p;
        }
    }

    private static class Step extends Plain {
        @Override
        boolean goes(int r, int c) {
            return r + c == 1;
        }

        @Override
        int number() {
            return 1;
        }
    }

    private static class Slant extends Plain {
        @Override
        boolean goes(int r, int c) {
            return r == 1 && c == 1;
        }

        @Override
        int number() {
            return 2;
        }
    }

    private static class Far extends Plain {
        @Override
        boolean goes(int r, int c) {
            return r * c == 3;
        }

        @Override
        int number() {
            return 3;
        }
    }

    private static class Both extends Step {
        @Override
        boolean goes(int r, int c) {
            return super.goes(r, c) || r * c == 2;
        }

        @Override
        int number() {
            return 4;
        }
    }

    /** The second program. */
    private static final class Model {
        String page = "";
        int rows, columns, leaps, reads;
        String signs = "";
        List<Plain> men = new ArrayList<>();
        List<int[]> seen = new ArrayList<>();
        Model kept;

        Model twin() {
            Model m = new Model();
            m.rows = rows;
            m.columns = columns;
            m.leaps = leaps;
            m.signs = signs;
            for (Plain p : men) {
                m.men.add(Plain.of(p.number(), p.at));
            }
            m.seen.addAll(seen);
            return m;
        }

        boolean known(int leaper) {
            return leaper >= 0 && leaper < men.size();
        }

        boolean hasCell(int cell) {
            return cell >= 0 && cell < signs.length();
        }

        boolean free(int cell) {
            return signs.charAt(cell) == '.';
        }

        int who(int cell) {
            for (int i = 0; i < men.size(); i++) {
                if (men.get(i).at == cell) {
                    return i;
                }
            }
            return NONE;
        }

        boolean joins(Plain p, int from, int to) {
            return p.goes(Math.abs(from / columns - to / columns), Math.abs(from % columns - to % columns));
        }

        boolean watches(Plain p, int cell) {
            return free(cell) && joins(p, p.at, cell);
        }

        List<Integer> goals(int leaper) {
            List<Integer> all = new ArrayList<>();
            for (int cell = 0; cell < signs.length(); cell++) {
                if (watches(men.get(leaper), cell) && who(cell) == NONE) {
                    all.add(cell);
                }
            }
            return all;
        }

        /** What may stand behind a text that is the beginning of a board, as far as it need be seen. */
        static String behind(String text) {
            if (text.isEmpty()) {
                return "23";
            }
            if (text.length() == 1) {
                return "234";
            }
            if (text.length() == 2) {
                return ";";
            }
            int cells = (text.charAt(0) - '0') * (text.charAt(1) - '0');
            int given = text.length() - 3;
            if (given < cells) {
                return ".#";
            }
            if (given == cells) {
                return ";";
            }
            String told = text.substring(4 + cells);
            if (told.isEmpty() || told.endsWith(",")) {
                return "kwfcb";
            }
            String[] men = told.split(",");
            if (men[men.length - 1].length() == 2) {
                return men.length < 4 ? "," : "";
            }
            StringBuilder places = new StringBuilder();
            for (int cell = 0; cell < cells; cell++) {
                boolean isTaken = false;
                for (int i = 0; i < men.length - 1; i++) {
                    isTaken |= men[i].charAt(1) == (char) ('a' + cell);
                }
                if (text.charAt(3 + cell) == '.' && !isTaken) {
                    places.append((char) ('a' + cell));
                }
            }
            return places.toString();
        }

        int letter(int code) {
            if (code < 32 || code > 126) {
                return OUTSIDE;
            }
            if (page.length() + 1 > 30) {
                return FULL;
            }
            page += (char) code;
            return page.length();
        }

        int blank() {
            int had = page.length();
            page = "";
            return had;
        }

        int fault() {
            for (int place = 0; place < page.length(); place++) {
                if (behind(page.substring(0, place)).indexOf(page.charAt(place)) < 0) {
                    return place;
                }
            }
            return page.length();
        }

        int board() {
            if (fault() < page.length() || !page.matches("..;[.#]+;[a-z][a-z](,[a-z][a-z])*")) {
                return STATE;
            }
            rows = page.charAt(0) - '0';
            columns = page.charAt(1) - '0';
            String[] told = page.split(";");
            signs = told[1];
            men.clear();
            for (String man : told[2].split(",")) {
                men.add(Plain.of("kwfcb".indexOf(man.charAt(0)), man.charAt(1) - 'a'));
            }
            leaps = 0;
            seen.clear();
            kept = null;
            reads++;
            page = "";
            return signs.length();
        }

        int leaper(int leaper, int what) {
            if (!known(leaper)) {
                return UNKNOWN;
            }
            Plain p = men.get(leaper);
            switch (what) {
                case 0:
                    return p.number();
                case 1:
                    return p.at;
                case 2:
                    int bits = 0;
                    for (int cell = 0; cell < signs.length(); cell++) {
                        bits += watches(p, cell) ? 1 << cell : 0;
                    }
                    return bits;
                case 3:
                    int can = 0;
                    for (int cell : goals(leaper)) {
                        can += 1 << cell;
                    }
                    return can;
                case 4:
                    int sorts = 0;
                    for (int kind : sorts(leaper)) {
                        sorts += 1 << kind;
                    }
                    return sorts;
                case 5:
                    return ask(leaper);
                case 6:
                    return way(leaper)[0];
                case 7:
                    return way(leaper)[1];
                default:
                    return OUTSIDE;
            }
        }

        List<Integer> sorts(int leaper) {
            List<Integer> all = new ArrayList<>();
            for (int kind = 0; kind < 5; kind++) {
                boolean agrees = true;
                for (int[] s : seen) {
                    agrees &= s[0] != leaper || Plain.of(kind, 0).goes(s[1], s[2]) == (s[3] == 1);
                }
                if (agrees) {
                    all.add(kind);
                }
            }
            return all;
        }

        int ask(int leaper) {
            List<Integer> all = sorts(leaper);
            if (all.isEmpty()) {
                return NONE;
            }
            int[] worst = new int[34];
            for (int ask = 0; ask <= 33; ask++) {
                int can = 0;
                for (int kind : all) {
                    can += Plain.of(kind, 0).goes(ask / 10, ask % 10) ? 1 : 0;
                }
                worst[ask] = ask % 10 > 3 ? 99 : Math.max(can, all.size() - can);
            }
            int best = 0;
            for (int ask = 33; ask >= 0; ask--) {
                best = worst[ask] <= worst[best] ? ask : best;
            }
            return best;
        }

        static final Map<String, int[]> WAYS = new HashMap<>();

        int[] way(int leaper) {
            Plain p = men.get(leaper);
            StringBuilder room = new StringBuilder();
            for (int cell = 0; cell < signs.length(); cell++) {
                room.append(free(cell) && (who(cell) == NONE || who(cell) == leaper) ? '.' : '#');
            }
            String key = columns + " " + p.number() + " " + p.at + " " + room;
            int[] way = WAYS.get(key);
            if (way == null) {
                boolean[] open = new boolean[room.length()];
                for (int cell = 0; cell < open.length; cell++) {
                    open[cell] = room.charAt(cell) == '.' && cell != p.at;
                }
                way = new int[] {1, NONE};
                for (int first = 0; first < open.length; first++) {
                    if (open[first] && joins(p, p.at, first)) {
                        int most = 1 + over(p, first, open);
                        way = most > way[0] ? new int[] {most, first} : way;
                    }
                }
                WAYS.put(key, way);
            }
            return way;
        }

        int over(Plain p, int from, boolean[] open) {
            int most = 0;
            open[from] = false;
            for (int to = 0; to < open.length; to++) {
                if (open[to] && joins(p, from, to)) {
                    most = Math.max(most, over(p, to, open));
                }
            }
            open[from] = true;
            return 1 + most;
        }

        int as(int leaper, int kind) {
            if (!known(leaper)) {
                return UNKNOWN;
            }
            if (kind < 0 || kind > 4) {
                return OUTSIDE;
            }
            return Plain.of(kind, 0).getClass().isInstance(men.get(leaper)) ? leaper : NONE;
        }

        int cell(int cell, int what) {
            if (!hasCell(cell)) {
                return UNKNOWN;
            }
            if (what == 0) {
                return free(cell) ? 1 : 0;
            }
            if (what == 1) {
                return who(cell);
            }
            int bits = 0;
            for (int i = 0; i < men.size(); i++) {
                bits += watches(men.get(i), cell) ? 1 << i : 0;
            }
            return what == 2 ? bits : OUTSIDE;
        }

        int leap(int leaper, int cell) {
            if (!known(leaper) || !hasCell(cell)) {
                return UNKNOWN;
            }
            if (!goals(leaper).contains(cell)) {
                return STATE;
            }
            men.get(leaper).at = cell;
            return ++leaps;
        }

        int frees() {
            return signs.replace("#", "").length();
        }

        int change(int cell, char sign) {
            if (!hasCell(cell)) {
                return UNKNOWN;
            }
            if (signs.charAt(cell) == sign || who(cell) != NONE) {
                return STATE;
            }
            signs = signs.substring(0, cell) + sign + signs.substring(cell + 1);
            return frees();
        }

        int be(int leaper, int kind) {
            if (!known(leaper)) {
                return UNKNOWN;
            }
            if (kind < 0 || kind > 4) {
                return OUTSIDE;
            }
            Plain was = men.set(leaper, Plain.of(kind, men.get(leaper).at));
            return was.number();
        }

        int hops(int leaper, int cell) {
            if (!known(leaper) || !hasCell(cell)) {
                return UNKNOWN;
            }
            Model m = twin();
            int[] far = new int[signs.length()];
            java.util.Arrays.fill(far, NONE);
            ArrayDeque<Integer> next = new ArrayDeque<>();
            far[men.get(leaper).at] = 0;
            next.add(men.get(leaper).at);
            while (!next.isEmpty()) {
                int from = next.remove();
                m.men.get(leaper).at = from;
                for (int to : m.goals(leaper)) {
                    if (far[to] == NONE) {
                        far[to] = far[from] + 1;
                        next.add(to);
                    }
                }
            }
            return far[cell];
        }

        int trade(int one, int other) {
            if (!known(one) || !known(other) || one == other) {
                return UNKNOWN;
            }
            Model m = twin();
            Plain p = m.men.get(one);
            Plain q = m.men.get(other);
            int wanted = q.at * 100 + p.at;
            Set<Integer> done = new HashSet<>();
            List<Integer> edge = new ArrayList<>();
            edge.add(p.at * 100 + q.at);
            done.addAll(edge);
            for (int leaps = 0; !edge.isEmpty(); leaps++) {
                if (edge.contains(wanted)) {
                    return leaps;
                }
                List<Integer> next = new ArrayList<>();
                for (int state : edge) {
                    p.at = state / 100;
                    q.at = state % 100;
                    for (int to : m.goals(one)) {
                        if (done.add(to * 100 + q.at)) {
                            next.add(to * 100 + q.at);
                        }
                    }
                    for (int to : m.goals(other)) {
                        if (done.add(p.at * 100 + to)) {
                            next.add(p.at * 100 + to);
                        }
                    }
                }
                edge = next;
            }
            return NONE;
        }

        int refused(int kind, int what) {
            if (kind < 0 || kind > 4 || what < 0 || what > 1) {
                return OUTSIDE;
            }
            return men.isEmpty() ? STATE : 0;
        }

        boolean freeSet(int set) {
            for (int cell = 0; cell < signs.length(); cell++) {
                if ((set >> cell & 1) == 1 && !free(cell)) {
                    return false;
                }
            }
            return true;
        }

        boolean quiet(Plain p, int set) {
            for (int a = 0; a < signs.length(); a++) {
                for (int b = 0; b < a; b++) {
                    if ((set >> a & 1) == 1 && (set >> b & 1) == 1 && joins(p, a, b)) {
                        return false;
                    }
                }
            }
            return true;
        }

        boolean guarded(Plain p, int set) {
            for (int a = 0; a < signs.length(); a++) {
                boolean isGuarded = !free(a) || (set >> a & 1) == 1;
                for (int b = 0; b < signs.length() && !isGuarded; b++) {
                    isGuarded = (set >> b & 1) == 1 && joins(p, a, b);
                }
                if (!isGuarded) {
                    return false;
                }
            }
            return true;
        }

        int peace(int kind, int what) {
            if (refused(kind, what) != 0) {
                return refused(kind, what);
            }
            int best = 0;
            for (int set = 0; set < 1 << signs.length(); set++) {
                if (Integer.bitCount(set) > Integer.bitCount(best) && freeSet(set) && quiet(Plain.of(kind, 0), set)) {
                    best = set;
                }
            }
            return what == 0 ? Integer.bitCount(best) : best;
        }

        int guard(int kind, int what) {
            if (refused(kind, what) != 0) {
                return refused(kind, what);
            }
            int best = 4095;
            int fewest = 99;
            for (int set = 0; set < 1 << signs.length(); set++) {
                if (Integer.bitCount(set) < fewest && freeSet(set) && guarded(Plain.of(kind, 0), set)) {
                    best = set;
                    fewest = Integer.bitCount(set);
                }
            }
            return what == 0 ? fewest : best;
        }

        int parts(int kind, int what) {
            if (refused(kind, what) != 0) {
                return refused(kind, what);
            }
            int[] part = new int[signs.length()];
            int[] shade = new int[signs.length()];
            int found = 0;
            boolean isTwo = true;
            for (int cell = 0; cell < part.length; cell++) {
                if (free(cell) && part[cell] == 0) {
                    found++;
                    isTwo &= paint(Plain.of(kind, 0), cell, found, 1, part, shade);
                }
            }
            return what == 0 ? found : isTwo ? 1 : 0;
        }

        boolean paint(Plain p, int cell, int number, int colour, int[] part, int[] shade) {
            if (part[cell] != 0) {
                return shade[cell] == colour;
            }
            part[cell] = number;
            shade[cell] = colour;
            boolean isTwo = true;
            for (int to = 0; to < part.length; to++) {
                if (free(to) && joins(p, cell, to)) {
                    isTwo &= paint(p, to, number, 3 - colour, part, shade);
                }
            }
            return isTwo;
        }

        int chance(int leaper, int cell, int left) {
            if (!known(leaper) || !hasCell(cell)) {
                return UNKNOWN;
            }
            if (left < 0 || left > 6) {
                return OUTSIDE;
            }
            return twin().likely(leaper, cell, left, new HashMap<>());
        }

        int likely(int leaper, int cell, int left, Map<Integer, Integer> told) {
            int at = men.get(leaper).at;
            Integer known = told.get(at * 10 + left);
            if (known != null) {
                return known;
            }
            List<Integer> goals = goals(leaper);
            long sum = 0;
            if (left > 0 && !goals.isEmpty()) {
                for (int to : goals) {
                    men.get(leaper).at = to;
                    sum += likely(leaper, cell, left - 1, told);
                }
                men.get(leaper).at = at;
                sum /= goals.size();
            } else {
                sum = at == cell ? 1000000 : 0;
            }
            told.put(at * 10 + left, (int) sum);
            return (int) sum;
        }

        int see(int leaper, int r, int c, boolean can) {
            if (!known(leaper)) {
                return UNKNOWN;
            }
            if (r < 0 || r > 3 || c < 0 || c > 3) {
                return OUTSIDE;
            }
            if (seen.size() == 6) {
                return FULL;
            }
            seen.add(new int[] {leaper, r, c, can ? 1 : 0});
            return seen.size();
        }

        int forget() {
            int was = seen.size();
            seen.clear();
            return was;
        }

        static BigInteger next(BigInteger seed) {
            return seed.multiply(new BigInteger("1103515245")).add(BigInteger.valueOf(12345)).mod(BigInteger.TWO.pow(31));
        }

        static int drawn(BigInteger seed, int of) {
            return seed.divide(BigInteger.valueOf(65536)).mod(BigInteger.valueOf(of)).intValue();
        }

        int walks(int times, int seed, int what) {
            if (times < 1 || times > 60 || seed < 0 || what < 0 || what > 2) {
                return OUTSIDE;
            }
            if (men.isEmpty()) {
                return STATE;
            }
            Model m = twin();
            m.leaps = 0;
            BigInteger s = BigInteger.valueOf(seed);
            for (int i = 0; i < times; i++) {
                s = next(s);
                int leaper = drawn(s, men.size());
                List<Integer> goals = m.goals(leaper);
                if (!goals.isEmpty()) {
                    s = next(s);
                    m.leap(leaper, goals.get(drawn(s, goals.size())));
                }
            }
            return what == 0 ? m.leaps : what == 1 ? m.watched() : s.intValueExact();
        }

        int watched() {
            int many = 0;
            for (int cell = 0; cell < signs.length(); cell++) {
                many += free(cell) && who(cell) == NONE && cell(cell, 2) != 0 ? 1 : 0;
            }
            return many;
        }

        int image() {
            if (men.isEmpty()) {
                return STATE;
            }
            kept = twin();
            return leaps;
        }

        int restore() {
            if (kept == null) {
                return STATE;
            }
            Model m = kept.twin();
            signs = m.signs;
            men = m.men;
            seen = m.seen;
            leaps = m.leaps;
            return leaps;
        }

        int count(int what) {
            int[] told = {rows, columns, frees(), men.size(), leaps, watched(), seen.size(), page.length(), reads};
            return what < 0 || what > 8 ? OUTSIDE : told[what];
        }

        long digest() {
            List<Long> told = new ArrayList<>();
            for (int i = 0; i < men.size(); i++) {
                for (int what = 0; what < 8; what++) {
                    told.add((long) leaper(i, what));
                }
                told.add((long) hops(i, 0));
                told.add((long) chance(i, 3, 3));
            }
            for (int cell = 0; cell < signs.length(); cell++) {
                for (int what = 0; what < 3; what++) {
                    told.add((long) cell(cell, what));
                }
            }
            for (int kind = 0; kind < 5 && !men.isEmpty(); kind++) {
                for (int what = 0; what < 6; what++) {
                    int asked = what % 2;
                    told.add((long) (what < 2 ? peace(kind, asked) : what < 4 ? guard(kind, asked) : parts(kind, asked)));
                }
            }
            if (men.size() > 1) {
                told.add((long) trade(0, 1));
            }
            for (char c : page.toCharArray()) {
                told.add((long) c);
            }
            for (int what = 0; what < 9; what++) {
                told.add((long) count(what));
            }
            long h = 1301;
            for (long t : told) {
                h = 31 * h + t;
            }
            return h;
        }
    }

    private static final Checks checks = new Checks();
    private static Random random;
    private static LeapBoard x;
    private static Model m;

    public static void main(String[] args) {
        for (int run = 0; run < RUNS; run++) {
            random = new Random(run);
            x = new LeapBoard();
            m = new Model();
            int before = checks.made();
            for (int i = 0; checks.made() - before < CALLS - CALLS_OF_A_BOARD; i++) {
                checks.about("run " + run + ", call " + (checks.made() - before));
                // most runs begin with a board, and few others follow
                int pick = random.nextInt(100);
                if (i == 3 || pick == 0) {
                    writeBoard();
                } else {
                    call(pick);
                }
            }
            checks.due("digest", x.digest(), m.digest());
        }
        checks.end();
    }

    private static int wild(int below) {
        return random.nextInt(16) == 0 ? WILD[random.nextInt(WILD.length)] : random.nextInt(below);
    }

    private static void letter(int code) {
        checks.due("letter(" + code + ")", x.letter(code), m.letter(code));
    }

    private static void blank() {
        checks.due("blank", x.blank(), m.blank());
    }

    private static void fault() {
        checks.due("fault on " + m.page, x.fault(), m.fault());
    }

    private static void board() {
        checks.due("board of " + m.page, x.board(), m.board());
    }

    /** Writes a board, mostly a right one, and reads it. */
    private static void writeBoard() {
        blank();
        int length = 0;
        int men = 1 + random.nextInt(4);
        boolean isSpoilt = random.nextInt(6) == 0;
        while (length < 30) {
            String fit = Model.behind(m.page);
            if (fit.isEmpty() || (fit.equals(",") && --men == 0)) {
                break;
            }
            char sign = fit.charAt(random.nextInt(fit.length()));
            if (fit.equals(".#")) {
                sign = random.nextInt(5) == 0 ? '#' : '.';
            }
            if (isSpoilt && random.nextInt(12) == 0) {
                sign = "234;.#kwfcbadl,mK ~".charAt(random.nextInt(19));
                letter(sign);
                break;
            }
            letter(sign);
            length++;
        }
        fault();
        board();
    }

    private static void call(int pick) {
        int leaper = random.nextInt(12) == 0 ? wild(5) : random.nextInt(Math.max(1, m.men.size()));
        int cell = random.nextInt(12) == 0 ? wild(13) : random.nextInt(Math.max(1, m.signs.length()));
        int kind = wild(5);
        if (pick < 20) {
            List<Integer> goals = m.known(leaper) && random.nextInt(4) != 0 ? m.goals(leaper) : new ArrayList<>();
            int to = goals.isEmpty() ? cell : goals.get(random.nextInt(goals.size()));
            checks.due("leap(" + leaper + ", " + to + ")", x.leap(leaper, to), m.leap(leaper, to));
        } else if (pick < 34) {
            int what = wild(8);
            checks.due("leaper(" + leaper + ", " + what + ")", x.leaper(leaper, what), m.leaper(leaper, what));
        } else if (pick < 38) {
            checks.due("as(" + leaper + ", " + kind + ")", x.as(leaper, kind), m.as(leaper, kind));
        } else if (pick < 43) {
            int what = wild(3);
            checks.due("cell(" + cell + ", " + what + ")", x.cell(cell, what), m.cell(cell, what));
        } else if (pick < 46) {
            checks.due("dig(" + cell + ")", x.dig(cell), m.change(cell, '#'));
        } else if (pick < 50) {
            checks.due("fill(" + cell + ")", x.fill(cell), m.change(cell, '.'));
        } else if (pick < 54) {
            checks.due("be(" + leaper + ", " + kind + ")", x.be(leaper, kind), m.be(leaper, kind));
        } else {
            ask(pick, leaper, cell, kind);
        }
    }

    private static void ask(int pick, int leaper, int cell, int kind) {
        int what = wild(2);
        if (pick < 60) {
            checks.due("hops(" + leaper + ", " + cell + ")", x.hops(leaper, cell), m.hops(leaper, cell));
        } else if (pick < 66) {
            int other = wild(4);
            checks.due("trade(" + leaper + ", " + other + ")", x.trade(leaper, other), m.trade(leaper, other));
        } else if (pick < 69) {
            checks.due("peace(" + kind + ", " + what + ")", x.peace(kind, what), m.peace(kind, what));
        } else if (pick < 72) {
            checks.due("guard(" + kind + ", " + what + ")", x.guard(kind, what), m.guard(kind, what));
        } else if (pick < 75) {
            checks.due("parts(" + kind + ", " + what + ")", x.parts(kind, what), m.parts(kind, what));
        } else if (pick < 80) {
            int left = wild(7);
            String call = "chance(" + leaper + ", " + cell + ", " + left + ")";
            checks.due(call, x.chance(leaper, cell, left), m.chance(leaper, cell, left));
        } else if (pick < 85) {
            int r = wild(4);
            int c = wild(4);
            boolean can = random.nextBoolean();
            String call = "see(" + leaper + ", " + r + ", " + c + ", " + can + ")";
            checks.due(call, x.see(leaper, r, c, can), m.see(leaper, r, c, can));
        } else if (pick < 86) {
            checks.due("forget", x.forget(), m.forget());
        } else if (pick < 90) {
            int times = wild(61);
            int seed = random.nextInt(3) == 0 ? random.nextInt() : wild(1000);
            int told = wild(3);
            String call = "walks(" + times + ", " + seed + ", " + told + ")";
            checks.due(call, x.walks(times, seed, told), m.walks(times, seed, told));
        } else if (pick < 92) {
            checks.due("image", x.image(), m.image());
        } else if (pick < 94) {
            checks.due("restore", x.restore(), m.restore());
        } else if (pick < 97) {
            int told = wild(9);
            checks.due("count(" + told + ")", x.count(told), m.count(told));
        } else if (pick < 98) {
            letter(random.nextInt(3) == 0 ? wild(127) : ' ' + random.nextInt(95));
        } else if (pick < 99) {
            fault();
            board();
        } else if (random.nextInt(4) == 0) {
            checks.due("digest", x.digest(), m.digest());
        }
    }
}
