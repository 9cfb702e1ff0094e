import java.math.BigInteger;

/**
 * The boundaries in "Terms": each sentence of the document that names one has a test of its own,
 * under its own words. Where a case cannot be reached, a remark stands where its test would be.
 */
public final class TermBoundsTest {
    private static final int NONE = -1, UNKNOWN = -101, OUTSIDE = -102, STATE = -103, FULL = -104;
    private static final int GREATEST = Integer.MAX_VALUE;
    private static final int MILLION = 1000000;
    private static final String[] SIZES = {"22", "23", "24", "32", "33", "34"};
    private static final String LETTERS = "kwfcb";
    // for each KIND the rows and columns that he goes
    private static final String[] GOES = {"12 21", "01 10", "11", "13 31", "01 10 12 21"};
    private static final Checks checks = new Checks();

    private static void due(String call, long got, long want) {
        checks.due(call, got, want);
    }

    private static LeapBoard on(String text) {
        return Checks.on(text);
    }

    public static void main(String[] args) {
        cellsRowByRow();
        noBoardAtFirst();
        nobodyHasLeapt();
        allAreLeapers();
        bothIsStepperToo();
        eachKindGoesSoFar();
        noWayRoundTheEdge();
        whateverLiesBetween();
        leapsToFreeAndEmptyCells();
        watchesAsIfNobodyStood();
        watchedByNoneAndAll();

        hopsOfNoneAndMost();
        hopsNone();
        tradeOfFewestAndMost();
        tradeNone();
        wayOfOneAndAll();
        wayFirstTheLeast();
        wayFirstWithoutTheWay();
        wayIfOthersStay();
        peaceOfOneAndMost();
        peaceOfLikeOnesTheLeast();
        peaceWhoeverStandsThere();
        guardOfOneAndMost();
        guardOfLikeOnesTheLeast();
        partsOfOneAndMost();
        partsWhoeverStandsThere();
        shadesOfAll();
        chanceOfNoneLeft();
        chanceOfSixLeft();
        chanceIfHeCanLeapNowhere();
        chanceIfOthersStay();
        chanceRoundedDownEachTime();

        seenSixAtMost();
        seenRowsAndColumns();
        seenOfOneAlone();
        sortsOfAllAndNone();
        askNone();
        askOfLikeOnesTheLeast();
        askFewestLeftAtWorst();
        drawsByTheSeed();
        drawOfWhichLeaper();
        drawOfWhichCell();
        noDrawIfHeStays();
        walksAreOnlyAsTheyWouldBe();
        watchedInTheEnd();
        imageKeepsFiveThings();
        imageKeepsNothingElse();
        checks.end();
    }

    private static int rowsOf(String size) {
        return size.charAt(0) - '0';
    }

    private static int columnsOf(String size) {
        return size.charAt(1) - '0';
    }

    private static int cellsOf(String size) {
        return rowsOf(size) * columnsOf(size);
    }

    /** A board of free cells, with these leapers. */
    private static LeapBoard open(String size, String men) {
        return on(size + ";" + ".".repeat(cellsOf(size)) + ";" + men);
    }

    private static boolean goes(int kind, int rows, int columns) {
        return GOES[kind].contains("" + rows + columns);
    }

    private static int bits(int... cells) {
        int set = 0;
        for (int cell : cells) {
            set |= 1 << cell;
        }
        return set;
    }

    // ---- cells, kinds, how far they go

    private static void cellsRowByRow() {
        checks.about("CELLS are numbered from 0, row by row");
        for (String size : SIZES) {
            LeapBoard x = open(size, "wa");
            due(size + ", beside and below 0", x.leaper(0, 2), bits(1, columnsOf(size)));
            due(size + ", below 0", x.leap(0, columnsOf(size)), 1);
            due(size + ", -1", x.cell(-1, 0), UNKNOWN);
            due(size + ", 0", x.cell(0, 0), 1);
            due(size + ", the last", x.cell(cellsOf(size) - 1, 0), 1);
            due(size + ", behind the last", x.cell(cellsOf(size), 0), UNKNOWN);
        }
    }

    private static void noBoardAtFirst() {
        checks.about("At first there is none");
        LeapBoard x = new LeapBoard();
        due("ROWS", x.count(0), 0);
        due("COLUMNS", x.count(1), 0);
        due("CELLS that are FREE", x.count(2), 0);
        due("LEAPERS", x.count(3), 0);
        due("a CELL", x.cell(0, 0), UNKNOWN);
        due("peace()", x.peace(0, 0), STATE);
    }

    private static void nobodyHasLeapt() {
        checks.about("At first there is none; then nobody has LEAPT");
        LeapBoard x = new LeapBoard();
        due("no BOARD", x.count(4), 0);
        x = open("22", "wa");
        due("a BOARD", x.count(4), 0);
        due("an IMAGE of it", x.image(), 0);
        due("the first LEAP", x.leap(0, 1), 1);
        due("one", x.count(4), 1);
        Checks.write(x, "22;....;wa");
        x.board();
        due("another BOARD", x.count(4), 0);
    }

    private static void allAreLeapers() {
        checks.about("All are LEAPERS");
        LeapBoard x = open("33", "ka,wb,fc,cd");
        for (int leaper = 0; leaper < 4; leaper++) {
            for (int kind = 0; kind < 5; kind++) {
                int want = kind == 0 || kind == leaper ? leaper : NONE;
                due(leaper + " as " + kind, x.as(leaper, kind), want);
            }
        }
    }

    private static void bothIsStepperToo() {
        checks.about("a BOTH is a STEPPER, too");
        LeapBoard x = open("33", "wa,bb");
        int[] want = {1, 1, NONE, NONE, 1};
        for (int kind = 0; kind < 5; kind++) {
            due("a BOTH as " + kind, x.as(1, kind), want[kind]);
        }
        due("a STEPPER is no BOTH", x.as(0, 4), NONE);
    }

    private static void eachKindGoesSoFar() {
        checks.about("so many rows .., and so many columns likewise");
        for (String size : SIZES) {
            for (int kind = 0; kind < 5; kind++) {
                for (int from = 0; from < cellsOf(size); from++) {
                    LeapBoard x = open(size, "" + LETTERS.charAt(kind) + (char) ('a' + from));
                    int want = fan(kind, from, rowsOf(size), columnsOf(size));
                    due(size + ", " + kind + " from " + from + " WATCHES", x.leaper(0, 2), want);
                    due(size + ", " + kind + " from " + from + " can LEAP", x.leaper(0, 3), want);
                }
            }
        }
    }

    private static int fan(int kind, int from, int rows, int columns) {
        int set = 0;
        for (int row = 0; row < rows; row++) {
            for (int column = 0; column < columns; column++) {
                if (goes(kind, Math.abs(row - from / columns), Math.abs(column - from % columns))) {
                    set |= 1 << (row * columns + column);
                }
            }
        }
        return set;
    }

    private static void noWayRoundTheEdge() {
        checks.about("by whichever of both is more, less the other one");
        // d ends the first row of four, e begins the second one
        due("a step from d", open("34", "wd").leaper(0, 2), bits(2, 7));
        due("a step from e", open("34", "we").leaper(0, 2), bits(0, 5, 8));
        due("a slant from d", open("34", "fd").leaper(0, 2), bits(6));
        due("a slant from h", open("34", "fh").leaper(0, 2), bits(2, 10));
        due("a plain one from h", open("34", "kh").leaper(0, 2), bits(1, 9));
        due("a far one from d", open("34", "cd").leaper(0, 2), bits(4));
        due("a far one from b", open("34", "cb").leaper(0, 2), 0);
    }

    private static void whateverLiesBetween() {
        checks.about("leapers that go, whatever lies between");
        // a far one from a to h: b to d and e to g are holes, or leapers
        LeapBoard x = on("24;.######.;ca");
        due("over HOLES", x.leap(0, 7), 1);
        x = open("24", "ca,wb,we,wf");
        due("over others", x.leap(0, 7), 1);
    }

    private static void leapsToFreeAndEmptyCells() {
        checks.about("One LEAPS to a CELL that is FREE and where nobody stands");
        LeapBoard x = on("33;.#.......;we,wh");
        due("can LEAP", x.leaper(0, 3), bits(3, 5));
        checks.refused(x, "to a HOLE", STATE, y -> y.leap(0, 1));
        checks.refused(x, "where one stands", STATE, y -> y.leap(0, 7));
        checks.refused(x, "where he stands", STATE, y -> y.leap(0, 4));
        x.fill(1);
        due("the HOLE is filled", x.leap(0, 1), 1);
        x.leap(0, 4);
        x.leap(1, 8);
        due("the other one is gone from there", x.leap(0, 7), 4);
    }

    private static void watchesAsIfNobodyStood() {
        checks.about("He WATCHES all CELLS to which he could LEAP, if nobody stood anywhere");
        LeapBoard x = on("33;.#.......;we,wh");
        due("WATCHES", x.leaper(0, 2), bits(3, 5, 7));
        due("who WATCHES where the other one stands", x.cell(7, 2), 1);
        due("nobody WATCHES a HOLE", x.cell(1, 2), 0);
        due("nor where he stands himself", x.leaper(1, 2), bits(4, 6, 8));
    }

    private static void watchedByNoneAndAll() {
        checks.about("which he WATCHES, who WATCHES it, as bits: none, and all");
        LeapBoard x = open("33", "wb,wd,wf,wh");
        due("all four WATCH the middle", x.cell(4, 2), 15);
        due("two of them a corner", x.cell(0, 2), bits(0, 1));
        due("the other two", x.cell(8, 2), bits(2, 3));
        due("nobody", x.cell(1, 2), 0);
        due("none is WATCHED", open("33", "ca").leaper(0, 2), 0);
        // a step to b e g j, as a plain one to d l: none WATCHES more
        due("six, by a BOTH", open("34", "bf").leaper(0, 2), bits(1, 4, 6, 9, 3, 11));
    }

    // ---- hops, trades, ways

    private static void hopsOfNoneAndMost() {
        checks.about("HOPS: by how few LEAPS he comes there (0: he is)");
        for (int kind = 0; kind < 5; kind++) {
            LeapBoard x = open("22", LETTERS.charAt(kind) + "a");
            due(kind + " is there", x.hops(0, 0), 0);
        }
        due("a plain one, one LEAP", open("34", "ka").hops(0, 6), 1);
        due("a far one, over h", open("34", "ca").hops(0, 8), 2);
        // b c d h l k j i: the HOLES leave this way alone
        due("a stepper, eight", on("34;....###.....;wa").hops(0, 8), 8);
        // g a j c l f d k: from each of them he goes back, or on, or to a HOLE
        due("a plain one, eight", on("34;.#..#.......;ki").hops(0, 10), 8);
        due("and back", on("34;.#..#.......;kk").hops(0, 8), 8);
    }

    private static void hopsNone() {
        checks.about("HOPS .., if all others stay; none");
        LeapBoard x = on("23;..#...;wa,kb,wd");
        due("where another one stands", x.hops(0, 1), NONE);
        due("a HOLE", x.hops(0, 2), NONE);
        due("the others are in the way", x.hops(0, 4), NONE);
        due("he can LEAP nowhere, but he is there", x.hops(0, 0), 0);
        x.leap(2, 4);
        due("one of them has gone", x.hops(0, 3), 1);
        due("a slant never comes beside", open("22", "fa").hops(0, 1), NONE);
        due("a far one never LEAPS on nine", open("33", "ca").hops(0, 8), NONE);
    }

    private static void tradeOfFewestAndMost() {
        checks.about("TRADE: by how few LEAPS .. each stands where the other one does now");
        // the stepper b d, the slant c b, the stepper d c: by two LEAPS none could step aside
        due("three", on("22;#...;wb,fc").trade(0, 1), 3);
        due("three, the other one first", on("22;#...;wb,fc").trade(1, 0), 3);
        due("round the four", open("22", "wa,wb").trade(0, 1), 4);
        due("aside once", on("23;...#.#;wa,wb").trade(0, 1), 6);
        due("the most of plain ones", on("34;.#......#..#;kd,kf").trade(0, 1), 22);
        due("the other one first", on("34;.#......#..#;kd,kf").trade(1, 0), 22);
        due("the most of steppers", on("34;......#.##..;wk,wl").trade(0, 1), 22);
    }

    private static void tradeNone() {
        checks.about("TRADE .., if all others stay; none");
        due("none can LEAP", open("22", "ka,kb").trade(0, 1), NONE);
        due("no way past", on("23;...###;wa,wb").trade(0, 1), NONE);
        due("another one stays beside", on("23;...#.#;wa,wb,we").trade(0, 1), NONE);
        due("one never comes there", open("22", "fa,wb").trade(0, 1), NONE);
        due("no CELL is empty", open("22", "wa,wb,wc,wd").trade(0, 1), NONE);
    }

    private static void wayOfOneAndAll() {
        checks.about("WAY: the most CELLS he can stand on .., his own with them (none: he cannot LEAP)");
        LeapBoard x = on("22;.###;wa");
        due("his own alone", x.leaper(0, 6), 1);
        due("first to none", x.leaper(0, 7), NONE);
        x = on("22;..##;wa");
        due("two, for none comes twice", x.leaper(0, 6), 2);
        due("first to b", x.leaper(0, 7), 1);
        x = open("34", "wa");
        due("all twelve", x.leaper(0, 6), 12);
        due("first to b", x.leaper(0, 7), 1);
        x = open("34", "ka");
        // g i b h j c e k d f l
        due("a plain one, all twelve", x.leaper(0, 6), 12);
        x = on("34;..#.#.......;cd");
        due("a far one on d, e dug", x.leaper(0, 6), 1);
        due("first to none, too", x.leaper(0, 7), NONE);
    }

    private static void wayFirstTheLeast() {
        checks.about("WAY .. to which CELL first: the least that is as good");
        LeapBoard x = open("34", "wl");
        due("from the last CELL, twelve", x.leaper(0, 6), 12);
        due("h as good as k", x.leaper(0, 7), 7);
        x = open("23", "we");
        // d a b c f, or f c b a d; by b only b a d
        due("six", x.leaper(0, 6), 6);
        due("b is less than d, but not as good", x.leaper(0, 7), 3);
        x = on("23;#.....;we");
        // b c f, or f c b
        due("four", x.leaper(0, 6), 4);
        due("b as good as f", x.leaper(0, 7), 1);
        x = open("33", "wb");
        due("eight of nine, by other CELLS each", x.leaper(0, 6), 8);
        due("a as good as c", x.leaper(0, 7), 0);
    }

    private static void wayFirstWithoutTheWay() {
        checks.about("WAY: to which CELL first, whatever was asked ahead");
        LeapBoard x = open("23", "wa,ce");
        due("nothing asked ahead", x.leaper(0, 7), 1);
        due("of the other one", x.leaper(1, 6), 1);
        due("of the first one again", x.leaper(0, 7), 1);
        due("of the other one first", x.leaper(1, 7), NONE);
        due("how many of the first one", x.leaper(0, 6), 4);
    }

    private static void wayIfOthersStay() {
        checks.about("WAY .., if all others stay");
        LeapBoard x = open("23", "wa,ke");
        due("a b c f", x.leaper(0, 6), 4);
        x = open("23", "wa,wb,kd");
        due("shut in", x.leaper(0, 6), 1);
        due("shut in: first to none", x.leaper(0, 7), NONE);
        x.leap(1, 4);
        due("one of them has gone from b: a b c f", x.leaper(0, 6), 4);
        due("first to b", x.leaper(0, 7), 1);
    }

    // ---- peace, guard, parts, shades

    /** The only CELL that is FREE, and the leaper on it. */
    private static LeapBoard lonely(String size, int cell, char kind) {
        StringBuilder text = new StringBuilder(size + ";" + "#".repeat(cellsOf(size)) + ";" + kind);
        text.setCharAt(3 + cell, '.');
        return on(text.append((char) ('a' + cell)).toString());
    }

    private static void peaceOfOneAndMost() {
        checks.about("PEACE: the most CELLS that are FREE on which such ones could stand");
        for (int kind = 0; kind < 5; kind++) {
            LeapBoard x = lonely("34", 11, 'w');
            due("one CELL, of " + kind, x.peace(kind, 0), 1);
            due("one CELL, which, of " + kind, x.peace(kind, 1), bits(11));
        }
        due("all nine for far ones", open("33", "ka").peace(3, 0), 9);
        due("all nine, which", open("33", "ka").peace(3, 1), 511);
        due("ten of twelve for far ones", open("34", "ka").peace(3, 0), 10);
        due("ten of twelve, which", open("34", "ka").peace(3, 1), bits(0, 1, 2, 3, 5, 6, 8, 9, 10, 11));
        due("no HOLE among them", on("22;.#..;ka").peace(0, 1), bits(0, 2, 3));
        // "none is FREE" cannot be: each LEAPER stands on a FREE CELL, and none is dug where one stands
    }

    private static void peaceOfLikeOnesTheLeast() {
        checks.about("PEACE .. which, as bits: of like ones the least");
        LeapBoard x = open("22", "ka");
        due("steppers: b c, not a d", x.peace(1, 1), bits(1, 2));
        due("slants: a b, not c d", x.peace(2, 1), bits(0, 1));
        due("two CELLS: a, not b", on("22;..##;ka").peace(1, 1), bits(0));
        due("steppers on six: a c e, not b d f", open("23", "ka").peace(1, 1), bits(0, 2, 4));
        due("more is ahead of less bits", open("33", "ka").peace(1, 1), bits(0, 2, 4, 6, 8));
    }

    private static void peaceWhoeverStandsThere() {
        checks.about("PEACE .. (whoever stands there now), so that none WATCHES another one");
        LeapBoard full = open("22", "ka,wb,fc,cd");
        LeapBoard one = open("22", "ka");
        for (int kind = 0; kind < 5; kind++) {
            due("which, of " + kind, full.peace(kind, 1), one.peace(kind, 1));
        }
        one.leap(0, 3);
        due("wherever he stands", one.peace(1, 1), bits(1, 2));
    }

    private static void guardOfOneAndMost() {
        checks.about("GUARD: the fewest CELLS that are FREE, so that .. each FREE CELL was stood on, or WATCHED");
        for (int kind = 0; kind < 5; kind++) {
            LeapBoard x = lonely("34", 11, 'w');
            due("one CELL, of " + kind, x.guard(kind, 0), 1);
            due("one CELL, which, of " + kind, x.guard(kind, 1), bits(11));
        }
        due("one for three", on("22;...#;ka").guard(1, 0), 1);
        due("all nine for far ones", open("33", "ka").guard(3, 0), 9);
        due("all nine, which", open("33", "ka").guard(3, 1), 511);
        // h WATCHES a and i, e WATCHES d and l; six are WATCHED from nowhere
        due("eight of twelve for far ones", open("34", "ka").guard(3, 0), 8);
        due("eight of twelve, which", open("34", "ka").guard(3, 1), bits(1, 2, 4, 5, 6, 7, 9, 10));
        due("not on a HOLE, though that would do", on("33;....#....;ka").guard(1, 0), 3);
        // "(0, if none is FREE)": no test can stand here. Each LEAPER, one at least, stands on a FREE
        // CELL, and dig() is refused where somebody stands, so that one CELL is FREE on each BOARD.
    }

    private static void guardOfLikeOnesTheLeast() {
        checks.about("GUARD .. which, as bits: of like ones the least");
        LeapBoard x = open("22", "ka");
        due("steppers: a b, not c d", x.guard(1, 1), bits(0, 1));
        due("slants: a b, not c d", x.guard(2, 1), bits(0, 1));
        due("two CELLS: a, not b", on("22;..##;ka").guard(1, 1), bits(0));
        // b e and a f would do, too
        due("steppers on six: c d", open("23", "ka").guard(1, 1), bits(2, 3));
        due("fewer is ahead of less bits: e, not a b c", on("33;#.#...#.#;kb").guard(1, 1), bits(4));
    }

    private static void partsOfOneAndMost() {
        checks.about("PARTS: into how many parts the FREE CELLS fall");
        for (int kind = 0; kind < 5; kind++) {
            due("one CELL, of " + kind, lonely("34", 0, 'w').parts(kind, 0), 1);
        }
        due("one of twelve", open("34", "ka").parts(1, 0), 1);
        due("nine of nine", open("33", "ka").parts(3, 0), 9);
        // a h i, d e l, and six alone
        due("eight of twelve", open("34", "ka").parts(3, 0), 8);
        due("ten of ten", on("34;....#..#....;ka").parts(3, 0), 10);
        due("two by a HOLE", on("23;.#..#.;ka").parts(1, 0), 2);
        due("one round a HOLE", on("23;.#....;ka").parts(1, 0), 1);
    }

    private static void partsWhoeverStandsThere() {
        checks.about("PARTS .. the FREE CELLS, whoever stands there");
        due("one leaper between", open("23", "wa,wb,we").parts(1, 0), 1);
        due("all stand", open("22", "wa,wb,wc,wd").parts(1, 0), 1);
    }

    private static void shadesOfAll() {
        checks.about("SHADES: whether FREE CELLS can be of two sorts .. (1, 0)");
        for (String size : SIZES) {
            for (int kind = 0; kind < 5; kind++) {
                due(size + ", of " + kind, open(size, "ka").parts(kind, 1), 1);
                due(size + ", one CELL, of " + kind, lonely(size, 1, 'k').parts(kind, 1), 1);
            }
        }
        // 0: no test can stand here. A slant and a far one change the row by one each time (three
        // rows apart there are none), all others change rows and columns together by an odd number:
        // so the CELLS of each BOARD are of two sorts for each KIND, whatever is dug.
    }

    // ---- chances

    private static void chanceOfNoneLeft() {
        checks.about("CHANCE: by none left a million, if he is there, else 0");
        LeapBoard x = open("23", "wa,cf");
        due("he is there", x.chance(0, 0, 0), MILLION);
        due("he could LEAP there", x.chance(0, 1, 0), 0);
        due("another one is there", x.chance(0, 5, 0), 0);
        due("the other one is there", x.chance(1, 5, 0), MILLION);
        due("a HOLE", on("22;.#..;wa").chance(0, 1, 0), 0);
    }

    private static void chanceOfSixLeft() {
        checks.about("CHANCE: so many LEAPS (0 to 6)");
        LeapBoard x = on("22;..##;wa");
        for (int leaps = 0; leaps <= 6; leaps++) {
            due("a, behind " + leaps, x.chance(0, 0, leaps), leaps % 2 == 0 ? MILLION : 0);
            due("b, behind " + leaps, x.chance(0, 1, leaps), leaps % 2 == 0 ? 0 : MILLION);
        }
        checks.refused(x, "7 left", OUTSIDE, y -> y.chance(0, 0, 7));
        checks.refused(x, "-1 left", OUTSIDE, y -> y.chance(0, 0, -1));
        // from a he goes to b; then five times on or back, each as likely, along b c d h l k
        due("as far as six LEAPS lead", on("34;....###.....;wa").chance(0, 10, 6), MILLION / 32);
        due("no farther", on("34;....###.....;wa").chance(0, 9, 6), 0);
    }

    private static void chanceIfHeCanLeapNowhere() {
        checks.about("CHANCE: if he can LEAP nowhere, it is as if none was left");
        LeapBoard x = open("22", "wa,kb,kc");
        for (int leaps = 0; leaps <= 6; leaps++) {
            due("where he is, " + leaps, x.chance(0, 0, leaps), MILLION);
            due("elsewhere, " + leaps, x.chance(0, 3, leaps), 0);
        }
        due("a far one on nine", open("33", "ce").chance(0, 4, 6), MILLION);
    }

    private static void chanceIfOthersStay() {
        checks.about("CHANCE: each is one of those he can, each as likely, if all others stay");
        LeapBoard x = open("22", "wa,kb");
        due("c alone", x.chance(0, 2, 1), MILLION);
        due("never where the other one stands", x.chance(0, 1, 1), 0);
        due("c d, or c a", x.chance(0, 3, 2), MILLION / 2);
        due("his own CELL is empty then", x.chance(0, 0, 2), MILLION / 2);
        x = on("33;.........;we");
        for (int cell = 1; cell <= 7; cell += 2) {
            due("one of four: " + cell, x.chance(0, cell, 1), MILLION / 4);
        }
    }

    private static void chanceRoundedDownEachTime() {
        checks.about("CHANCE: rounded down (so each time)");
        LeapBoard x = open("23", "wb,cd");
        due("a third", x.chance(0, 0, 1), 333333);
        x = open("23", "wa");
        // one left: from c 500000, from e 333333; two left: from b 277777, from d 166666
        due("two left, from b", open("23", "wb").chance(0, 5, 2), (500000 + 333333) / 3);
        due("two left, from d", open("23", "wd").chance(0, 5, 2), 333333 / 2);
        due("three left; once, at the end, it was 222222", x.chance(0, 5, 3), 222221);
    }

    // ---- what is seen

    private static void seenSixAtMost() {
        checks.about("SEEN (6 at most)");
        LeapBoard x = open("22", "ka,wb");
        due("nothing yet", x.count(6), 0);
        for (int many = 1; many <= 6; many++) {
            due("see() " + many, x.see(many % 2, 1, 2, true), many);
        }
        checks.refused(x, "a seventh", FULL, y -> y.see(0, 0, 1, true));
        checks.refused(x, "a seventh that is SEEN yet", FULL, y -> y.see(0, 1, 2, true));
        due("how much", x.count(6), 6);
        due("forget()", x.forget(), 6);
        for (int many = 1; many <= 6; many++) {
            due("see() again " + many, x.see(0, 0, 0, false), many);
        }
        checks.refused(x, "a seventh again", FULL, y -> y.see(1, 0, 1, true));
    }

    private static void seenRowsAndColumns() {
        checks.about("SEEN: so many rows and so many columns (0 to 3 each)");
        for (int rows = 0; rows <= 3; rows++) {
            for (int columns = 0; columns <= 3; columns++) {
                int sorts = 0;
                for (int kind = 0; kind < 5; kind++) {
                    sorts |= goes(kind, rows, columns) ? 1 << kind : 0;
                }
                LeapBoard x = open("22", "ka,wb");
                due("rows, columns", x.see(0, rows, columns, true), 1);
                due("could " + rows + " " + columns, x.leaper(0, 4), sorts);
                due("rows, columns", x.see(1, rows, columns, false), 2);
                due("could not " + rows + " " + columns, x.leaper(1, 4), 31 - sorts);
            }
        }
        LeapBoard x = open("22", "ka");
        int[] wrong = {Integer.MIN_VALUE, -2, -1, 4, 5, GREATEST};
        for (int far : wrong) {
            checks.refused(x, far + " rows", OUTSIDE, y -> y.see(0, far, 2, true));
            checks.refused(x, far + " columns", OUTSIDE, y -> y.see(0, 1, far, false));
        }
    }

    private static void seenOfOneAlone() {
        checks.about("SEEN: that a LEAPER, of whom it is not known of which KIND he is, could LEAP so");
        LeapBoard x = open("22", "ka,wb,fc,cd");
        x.see(3, 1, 1, true);
        x.see(0, 0, 1, false);
        due("0", x.leaper(0, 4), bits(0, 2, 3));
        due("1", x.leaper(1, 4), 31);
        due("2", x.leaper(2, 4), 31);
        due("3, whatever he is", x.leaper(3, 4), bits(2));
        x.be(3, 4);
        due("3, whatever he becomes", x.leaper(3, 4), bits(2));
        due("all stay the KINDS they are", x.leaper(0, 0), 0);
    }

    private static void sortsOfAllAndNone() {
        checks.about("SORTS (KINDS 0 to 4) he can be of, so that all that is SEEN of him is so");
        LeapBoard x = open("22", "ka");
        due("nothing SEEN", x.leaper(0, 4), 31);
        x.see(0, 0, 0, false);
        due("none could go nowhere", x.leaper(0, 4), 31);
        x.see(0, 0, 1, true);
        due("STEPPER, BOTH", x.leaper(0, 4), bits(1, 4));
        x.see(0, 2, 1, true);
        due("BOTH", x.leaper(0, 4), bits(4));
        x.see(0, 1, 0, true);
        due("BOTH still", x.leaper(0, 4), bits(4));
        x.see(0, 1, 0, false);
        due("so, and not so", x.leaper(0, 4), 0);
        x.forget();
        due("nothing SEEN any more", x.leaper(0, 4), 31);
        x.see(0, 3, 3, true);
        due("none goes so", x.leaper(0, 4), 0);
    }

    /** ASK when each of these could not be LEAPT, as 10 times the rows, and the columns. */
    private static int askWithout(int... legs) {
        LeapBoard x = open("22", "ka");
        for (int leg : legs) {
            x.see(0, leg / 10, leg % 10, false);
        }
        return x.leaper(0, 5);
    }

    private static void askNone() {
        checks.about("ASK: none, if there are none");
        LeapBoard x = open("22", "ka,wb");
        x.see(0, 3, 3, true);
        due("no SORTS are left", x.leaper(0, 5), NONE);
        due("all SORTS of the other one", x.leaper(1, 5), 1);
        due("no SORTS are left by four that could not be", askWithout(1, 12, 11, 13), NONE);
        due("one SORT is left", askWithout(1, 12, 11), 0);
    }

    private static void askOfLikeOnesTheLeast() {
        checks.about("ASK: told as 10 times the rows, and the columns: of like ones the least");
        // one row or one column, and so on: the one with fewer rows is less
        due("1, not 10", askWithout(), 1);
        due("11, not 12, 13", askWithout(1), 11);
        due("12, not 21", askWithout(1, 11), 12);
        due("1, not 12", askWithout(11, 13), 1);
        for (int leg : new int[] {11, 13, 31}) {
            LeapBoard x = open("22", "ka");
            x.see(0, leg / 10, leg % 10, true);
            due("one SORT: 0, for each leaves as many", x.leaper(0, 5), 0);
        }
    }

    private static void askFewestLeftAtWorst() {
        checks.about("ASK: so that fewest of these are left at worst");
        LeapBoard x = open("22", "ka");
        x.see(0, 1, 0, true);
        due("STEPPER, BOTH: 1 leaves two", x.leaper(0, 5), 12);
        x = open("22", "ka");
        x.see(0, 2, 1, true);
        due("LEAPER, BOTH: 12 leaves two", x.leaper(0, 5), 1);
        due("SLANT, FAR: 1 leaves two", askWithout(1, 12), 11);
        due("STEPPER, SLANT, FAR: 1 leaves two, 12 three", askWithout(12), 1);
        due("all but SLANT: two and two", askWithout(11), 1);
    }

    // ---- walks

    private static final int[] SEEDS = {0, 1, 2, 77, 12345, 65535, 65536, 65537, 1 << 30, GREATEST - 1, GREATEST};

    private static int next(int seed) {
        BigInteger all = BigInteger.valueOf(1103515245).multiply(BigInteger.valueOf(seed)).add(BigInteger.valueOf(12345));
        return all.mod(BigInteger.TWO.pow(31)).intValueExact();
    }

    private static int drawn(int seed, int many) {
        return Math.floorMod(Math.floorDiv(next(seed), 65536), many);
    }

    private static void drawsByTheSeed() {
        checks.about("DRAWS: the next SEED .. 1103515245 times it and 12345, its rest by 2 to the 31");
        LeapBoard x = open("22", "ka");
        due("0", x.walks(1, 0, 2), 12345);
        due("1", x.walks(1, 1, 2), 1103527590);
        due("the greatest", x.walks(1, GREATEST, 2), 1043980748);
        for (int seed : SEEDS) {
            int then = seed;
            for (int times = 1; times <= 20; times++) {
                then = next(then);
                due(times + " by " + seed, x.walks(times, seed, 2), then);
            }
        }
    }

    private static void drawOfWhichLeaper() {
        checks.about("WALKS: a LEAPER by a DRAW of how many there are; by 65536 (rounded down), its rest");
        String[] idle = {"cb", "cc", "cf"};
        for (int many = 1; many <= 4; many++) {
            for (int who = 0; who < many; who++) {
                StringBuilder men = new StringBuilder();
                for (int i = 0; i < many; i++) {
                    men.append(i > 0 ? "," : "").append(i == who ? "wl" : idle[i < who ? i : i - 1]);
                }
                LeapBoard x = open("34", men.toString());
                for (int seed : SEEDS) {
                    boolean isHe = drawn(seed, many) == who;
                    due(men + " by " + seed, x.walks(1, seed, 0), isHe ? 1 : 0);
                    due(men + ", the SEED then", x.walks(1, seed, 2), isHe ? next(next(seed)) : next(seed));
                }
            }
        }
    }

    private static void drawOfWhichCell() {
        checks.about("WALKS: LEAPS to that CELL, of those to which he can, by number, which a DRAW .. tells");
        // on a he WATCHES b; on c b, d, g; on f b, g
        LeapBoard x = on("24;....#...;wb");
        int[] watched = {1, 3, 2};
        for (int seed = 0; seed < 60; seed++) {
            int second = next(seed);
            due("by " + seed, x.walks(1, seed, 1), watched[drawn(second, 3)]);
        }
    }

    private static void noDrawIfHeStays() {
        checks.about("WALKS: (none: he stays, that is not drawn)");
        LeapBoard x = open("22", "ka");
        due("no LEAP", x.walks(60, 5, 0), 0);
        due("one DRAW a time", x.walks(2, 5, 2), next(next(5)));
        // one CELL alone is drawn
        x = on("22;..##;wa");
        due("a LEAP each time", x.walks(60, 5, 0), 60);
        due("two DRAWS a time", x.walks(2, 5, 2), next(next(next(next(5)))));
    }

    private static void walksAreOnlyAsTheyWouldBe() {
        checks.about("WALKS .., as they would be: how many LEAPS there are");
        LeapBoard x = open("33", "we,kb");
        x.leap(0, 3);
        x.leap(0, 4);
        x.image();
        long ahead = x.digest();
        due("LEAPS of the WALKS alone", x.walks(1, 0, 0), 1);
        for (int what = 0; what <= 2; what++) {
            x.walks(60, 9, what);
            due("digest() behind what = " + what, x.digest(), ahead);
        }
        due("the IMAGE", x.restore(), 2);
        due("where he stands", x.leaper(0, 1), 4);
    }

    private static void watchedInTheEnd() {
        checks.about("WALKS: how many CELLS that are FREE, and where nobody stands, are WATCHED in the end");
        due("HOLES alone", on("22;.##.;wa").walks(1, 0, 1), 0);
        due("one CELL, and a HOLE", on("22;.#..;wa").walks(1, 0, 1), 2);
        LeapBoard x = open("22", "wa,kb");
        for (int seed : SEEDS) {
            // on c he WATCHES a and d; if the other one is drawn, he stays, and WATCHES c, and b in vain
            due("beside another one, by " + seed, x.walks(1, seed, 1), drawn(seed, 2) == 0 ? 2 : 1);
        }
    }

    // ---- images

    private static void imageKeepsFiveThings() {
        checks.about("An IMAGE keeps HOLES, KINDS, where all stand, LEAPS, SEEN");
        LeapBoard x = on("23;.....#;wa,kd");
        x.leap(0, 1);
        x.see(1, 0, 1, true);
        due("image()", x.image(), 1);
        long ahead = x.digest();
        x.dig(4);
        x.fill(5);
        x.be(0, 3);
        x.be(1, 4);
        x.leap(1, 0);
        x.see(0, 1, 1, true);
        due("restore()", x.restore(), 1);
        due("a CELL dug", x.cell(4, 0), 1);
        due("a HOLE filled", x.cell(5, 0), 0);
        due("a KIND", x.leaper(0, 0), 1);
        due("another KIND", x.leaper(1, 0), 0);
        due("where he stands", x.leaper(1, 1), 3);
        due("LEAPS", x.count(4), 1);
        due("SEEN", x.count(6), 1);
        due("what was SEEN", x.leaper(1, 4), bits(1, 4));
        due("what was not", x.leaper(0, 4), 31);
        due("all of it", x.digest(), ahead);
        x.forget();
        x.see(0, 1, 1, true);
        due("restore() again", x.restore(), 1);
        due("of whom it was SEEN", x.leaper(1, 4), bits(1, 4));
        due("of whom it was not", x.leaper(0, 4), 31);
        due("all of it again", x.digest(), ahead);
    }

    private static void imageKeepsNothingElse() {
        checks.about("An IMAGE keeps .. (nothing else)");
        LeapBoard x = open("22", "wa");
        x.letter('2');
        x.image();
        x.letter('3');
        x.restore();
        due("letters stay", x.count(7), 2);
        x.blank();
        x.restore();
        due("an empty PAGE stays", x.count(7), 0);
        due("how often a BOARD was read stays", x.count(8), 1);
    }
}
