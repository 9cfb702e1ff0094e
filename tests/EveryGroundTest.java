/**
 * PEACE, GUARD, PARTS and SHADES of each KIND on each board that there is, whatever its HOLES: all
 * sets of FREE CELLS are tried one by one, from the least on.
 */
public final class EveryGroundTest {
    private static final String[] SIZES = {"22", "23", "24", "32", "33", "34"};
    // for each KIND the rows and columns that he goes
    private static final String[] GOES = {"12 21", "01 10", "11", "13 31", "01 10 12 21"};
    private static final Checks checks = new Checks();

    public static void main(String[] args) {
        for (String size : SIZES) {
            int columns = size.charAt(1) - '0';
            int cells = (size.charAt(0) - '0') * columns;
            int[][] near = new int[GOES.length][];
            for (int kind = 0; kind < GOES.length; kind++) {
                near[kind] = near(GOES[kind], columns, cells);
            }
            for (int free = 1; free < 1 << cells; free++) {
                LeapBoard x = Checks.on(textOf(size, cells, free));
                for (int kind = 0; kind < GOES.length; kind++) {
                    checks.about("board " + size + ", free " + free + ", kind " + kind);
                    sets(x, kind, near[kind], free);
                    sorts(x, kind, near[kind], free);
                }
            }
        }
        checks.end();
    }

    private static int[] near(String goes, int columns, int cells) {
        int[] near = new int[cells];
        for (int from = 0; from < cells; from++) {
            for (int to = 0; to < cells; to++) {
                int rows = Math.abs(from / columns - to / columns);
                int across = Math.abs(from % columns - to % columns);
                if (goes.contains("" + rows + across)) {
                    near[from] |= 1 << to;
                }
            }
        }
        return near;
    }

    /** A leaper stands on the highest free cell: who stands there changes nothing. */
    private static String textOf(String size, int cells, int free) {
        StringBuilder text = new StringBuilder(size).append(';');
        for (int cell = 0; cell < cells; cell++) {
            text.append((free >> cell & 1) == 1 ? '.' : '#');
        }
        char stand = (char) ('a' + 31 - Integer.numberOfLeadingZeros(free));
        return text.append(";w").append(stand).toString();
    }

    private static void sets(LeapBoard x, int kind, int[] near, int free) {
        int peace = 0;
        int guard = free;
        // each set of free cells, from the least on: only a better one comes instead of an earlier one
        for (int set = 0; set <= free; set++) {
            if ((set & ~free) == 0) {
                int watched = 0;
                for (int cell = 0; cell < near.length; cell++) {
                    watched |= (set >> cell & 1) == 1 ? near[cell] : 0;
                }
                if ((set & watched) == 0 && Integer.bitCount(set) > Integer.bitCount(peace)) {
                    peace = set;
                }
                boolean isGuard = (free & ~(set | watched)) == 0;
                boolean isFewer = Integer.bitCount(set) < Integer.bitCount(guard);
                if (isGuard && isFewer) {
                    guard = set;
                }
            }
        }
        checks.due("peace(" + kind + ", 0)", x.peace(kind, 0), Integer.bitCount(peace));
        checks.due("peace(" + kind + ", 1)", x.peace(kind, 1), peace);
        checks.due("guard(" + kind + ", 0)", x.guard(kind, 0), Integer.bitCount(guard));
        checks.due("guard(" + kind + ", 1)", x.guard(kind, 1), guard);
    }

    private static void sorts(LeapBoard x, int kind, int[] near, int free) {
        int[] shade = new int[near.length];
        int parts = 0;
        boolean isShaded = true;
        for (int cell = 0; cell < near.length; cell++) {
            if ((free >> cell & 1) == 1 && shade[cell] == 0) {
                parts++;
                isShaded &= walk(near, free, cell, 1, shade);
            }
        }
        checks.due("parts(" + kind + ", 0)", x.parts(kind, 0), parts);
        checks.due("parts(" + kind + ", 1)", x.parts(kind, 1), isShaded ? 1 : 0);
    }

    private static boolean walk(int[] near, int free, int cell, int sort, int[] shade) {
        if (shade[cell] != 0) {
            return shade[cell] == sort;
        }
        shade[cell] = sort;
        boolean isShaded = true;
        for (int to = 0; to < near.length; to++) {
            if (((near[cell] & free) >> to & 1) == 1) {
                isShaded &= walk(near, free, to, 3 - sort, shade);
            }
        }
        return isShaded;
    }
}
