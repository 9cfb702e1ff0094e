/**
 * The boundaries in "What it is", and of promises 1 to 5: each sentence of the document that names
 * one has a test of its own, under its own words.
 */
public final class BoardBoundsTest {
    private static final int NONE = -1, UNKNOWN = -101, OUTSIDE = -102, STATE = -103, FULL = -104;
    private static final int LEAST = Integer.MIN_VALUE, GREATEST = Integer.MAX_VALUE;
    private static final int FIRST_CODE = 32, LAST_CODE = 126, MOST_LETTERS = 30, MOST_CALLS = 512;
    private static final String[] SIZES = {"22", "23", "24", "32", "33", "34"};
    private static final String LONGEST = "34;............;ka,wb,fc,bl";
    private static final Checks checks = new Checks();

    private static void due(String call, long got, long want) {
        checks.due(call, got, want);
    }

    public static void main(String[] args) {
        twoOrThreeRows();
        twoToFourColumns();
        semicolonBehindTheDigits();
        asManySignsAsCells();
        freeOrHole();
        semicolonBehindTheSigns();
        atLeastOneLeaper();
        atMostFourLeapers();
        commasBetween();
        fiveKindLetters();
        cellLetters();
        standsOnFreeCells();
        standUnlike();
        numberedFromZero();
        shortestAndLongest();
        atMost512Calls();

        newObjectHasNoBoard();
        letterCodes();
        lettersFull();
        letterOutsideAheadOfFull();
        blankOfEmptyAndFull();
        blankLeavesTheBoard();
        faultOfEmptyAndFull();
        faultAtTheLastPlace();
        faultBehindThoseAheadAlone();
        faultNeedNotSeeOn();
        faultChangesNothing();
        boardIsNone();
        boardRefusedChangesNothing();
        boardIsReadWhole();
        anotherBoardIsGone();
        allThatWasIsGone();
        checks.end();
    }

    private static LeapBoard written(String text) {
        LeapBoard x = new LeapBoard();
        Checks.write(x, text);
        return x;
    }

    private static int faultOf(String text) {
        return written(text).fault();
    }

    private static int boardOf(String text) {
        return written(text).board();
    }

    private static int cellsOf(String size) {
        return (size.charAt(0) - '0') * (size.charAt(1) - '0');
    }

    private static String signs(int many) {
        return ".".repeat(many);
    }

    /** A board of free cells, up to its leapers. */
    private static String open(String size) {
        return size + ";" + signs(cellsOf(size)) + ";";
    }

    /** Behind what is written, each of these letters fits, and no other one that there is. */
    private static void fitOnly(String ahead, String fitting) {
        for (int code = FIRST_CODE; code <= LAST_CODE; code++) {
            int want = ahead.length() + (fitting.indexOf(code) >= 0 ? 1 : 0);
            due("fault() of " + ahead + (char) code, faultOf(ahead + (char) code), want);
        }
    }

    // ---- what a BOARD is as a text

    private static void twoOrThreeRows() {
        checks.about("how many ROWS (2 or 3)");
        fitOnly("", "23");
        due("1 row", boardOf("12;..;ka"), STATE);
        due("2 rows", boardOf("22;....;ka"), 4);
        due("3 rows", boardOf("32;......;ka"), 6);
        due("4 rows", boardOf("42;........;ka"), STATE);
    }

    private static void twoToFourColumns() {
        checks.about("how many COLUMNS (2 to 4)");
        fitOnly("2", "234");
        fitOnly("3", "234");
        due("1 column", boardOf("21;..;ka"), STATE);
        due("2 columns", boardOf("22;....;ka"), 4);
        due("4 columns", boardOf("24;........;ka"), 8);
        due("5 columns", boardOf("25;..........;ka"), STATE);
        due("0 columns", boardOf("20;;ka"), STATE);
    }

    private static void semicolonBehindTheDigits() {
        checks.about("two digits ..; ';'");
        for (String size : SIZES) {
            fitOnly(size, ";");
        }
    }

    private static void asManySignsAsCells() {
        checks.about("as many signs as there are CELLS");
        for (String size : SIZES) {
            int cells = cellsOf(size);
            due(size + ", one sign less", faultOf(size + ";" + signs(cells - 1) + ";"), 3 + cells - 1);
            due(size + ", one sign less, read", boardOf(size + ";" + signs(cells - 1) + ";ka"), STATE);
            due(size + ", as many", faultOf(size + ";" + signs(cells) + ";"), 3 + cells + 1);
            due(size + ", as many, read", boardOf(size + ";" + signs(cells) + ";ka"), cells);
            due(size + ", one sign more", faultOf(size + ";" + signs(cells + 1)), 3 + cells);
            due(size + ", one sign more, read", boardOf(size + ";" + signs(cells + 1) + ";ka"), STATE);
        }
    }

    private static void freeOrHole() {
        checks.about("'.' (FREE) or '#' (a HOLE) each");
        for (String size : SIZES) {
            int cells = cellsOf(size);
            fitOnly(size + ";", ".#");
            fitOnly(size + ";" + signs(cells - 1), ".#");
            fitOnly(size + ";" + "#".repeat(cells - 1), ".#");
        }
        LeapBoard x = Checks.on("22;.##.;ka");
        due("'.' is FREE", x.cell(0, 0), 1);
        due("'#' is a HOLE", x.cell(1, 0), 0);
        due("the last '.'", x.cell(3, 0), 1);
    }

    private static void semicolonBehindTheSigns() {
        checks.about("signs ..; ';'");
        for (String size : SIZES) {
            fitOnly(size + ";" + signs(cellsOf(size)), ";");
        }
    }

    private static void atLeastOneLeaper() {
        checks.about("one to four LEAPERS: at least one");
        for (String size : SIZES) {
            due(size + ", none: not a fault", faultOf(open(size)), open(size).length());
            due(size + ", none: no BOARD", boardOf(open(size)), STATE);
            due(size + ", half of one", boardOf(open(size) + "k"), STATE);
            due(size + ", one", boardOf(open(size) + "ka"), cellsOf(size));
        }
    }

    private static void atMostFourLeapers() {
        checks.about("one to four LEAPERS: at most four");
        String men = "ka,wb,fc,cd";
        for (String size : SIZES) {
            LeapBoard x = written(open(size) + men);
            due(size + ", four", x.board(), cellsOf(size));
            due(size + ", how many", x.count(3), 4);
            fitOnly(open(size) + men, "");
        }
        due("a fifth", faultOf(open("23") + men + ",be"), open("23").length() + men.length());
        due("a fifth, read", boardOf(open("23") + men + ",be"), STATE);
    }

    private static void commasBetween() {
        checks.about("LEAPERS with ',' between");
        fitOnly("22;....;ka", ",");
        fitOnly("22;....;ka,wb", ",");
        fitOnly("22;....;ka,wb,fc", ",");
        due("ahead of the first", faultOf("22;....;,"), 8);
        due("none between", faultOf("22;....;kawb"), 10);
        due("behind the last: not a fault", faultOf("22;....;ka,"), 11);
        due("behind the last: no BOARD", boardOf("22;....;ka,"), STATE);
        due("two between", faultOf("22;....;ka,,"), 11);
    }

    private static void fiveKindLetters() {
        checks.about("each a letter, the KIND; KINDS are told by the letter");
        String letters = "kwfcb";
        fitOnly("22;....;", letters);
        fitOnly("34;............;ka,wb,fc,", letters);
        for (int kind = 0; kind < letters.length(); kind++) {
            LeapBoard x = Checks.on("22;....;" + letters.charAt(kind) + "a");
            due("KIND of " + letters.charAt(kind), x.leaper(0, 0), kind);
        }
    }

    private static void cellLetters() {
        checks.about("a letter, the CELL where he stands ('a' 0, 'b' 1, and on)");
        for (String size : SIZES) {
            int cells = cellsOf(size);
            fitOnly(open(size) + "k", "abcdefghijkl".substring(0, cells));
            char last = (char) ('a' + cells - 1);
            due(size + ", 'a'", Checks.on(open(size) + "ka").leaper(0, 1), 0);
            due(size + ", 'b'", Checks.on(open(size) + "kb").leaper(0, 1), 1);
            due(size + ", the last", Checks.on(open(size) + "k" + last).leaper(0, 1), cells - 1);
            due(size + ", behind the last", boardOf(open(size) + "k" + (char) (last + 1)), STATE);
        }
    }

    private static void standsOnFreeCells() {
        checks.about("the CELL where he stands (.. FREE ones ..)");
        fitOnly("22;#..#;k", "bc");
        fitOnly("34;#.........##;k", "bcdefghij");
        due("on the first HOLE", boardOf("22;#..#;ka"), STATE);
        due("behind it", boardOf("22;#..#;kb"), 4);
        due("ahead of the last HOLE", boardOf("22;#..#;kc"), 4);
        due("on the last HOLE", boardOf("22;#..#;kd"), STATE);
        due("the second one on a HOLE", faultOf("22;#..#;kb,ka"), 12);
    }

    private static void standUnlike() {
        checks.about("the CELL where he stands (.. unlike)");
        fitOnly("22;....;ka,w", "bcd");
        fitOnly("22;....;kd,w", "abc");
        fitOnly("22;....;kb,wc,f", "ad");
        fitOnly("22;....;kb,wc,fa,c", "d");
        fitOnly("22;.##.;kd,ka,k", "");
        due("read", boardOf("22;....;kb,wb"), STATE);
    }

    private static void numberedFromZero() {
        checks.about("LEAPERS (numbered from 0)");
        LeapBoard x = Checks.on("22;....;wd,fc,cb,ba");
        due("-1", x.leaper(-1, 1), UNKNOWN);
        due("0", x.leaper(0, 1), 3);
        due("1", x.leaper(1, 1), 2);
        due("2", x.leaper(2, 1), 1);
        due("3", x.leaper(3, 1), 0);
        due("4", x.leaper(4, 1), UNKNOWN);
    }

    private static void shortestAndLongest() {
        checks.about("A BOARD is a text: the shortest, the longest");
        due("the shortest", boardOf("22;....;ka"), 4);
        due("the longest", boardOf(LONGEST), 12);
        for (int code = FIRST_CODE; code <= LAST_CODE; code++) {
            due("a letter behind the longest", boardOf(LONGEST + (char) code), STATE);
        }
    }

    private static void atMost512Calls() {
        checks.about("for at most 512 calls after it has been made");
        String text = "22;....;wa";
        LeapBoard x = Checks.on(text);
        int calls = text.length() + 1;
        int leaps = 0;
        while (calls < MOST_CALLS - 1) {
            leaps++;
            calls++;
            due("call " + calls, x.leap(0, leaps % 2), leaps);
        }
        due("call 512", x.count(4), 500);
        // "FULL: 999 were": no test can stand here. Ten letters and board() come ahead of the first
        // leap, so that not more than 501 of the 512 calls can be leaps, and no other call adds one.
        // Nor can one stand for the 513th call: what it answers is free.
    }

    // ---- promise 1

    private static void newObjectHasNoBoard() {
        checks.about("Promise 1: No BOARD");
        LeapBoard x = new LeapBoard();
        due("board()", x.board(), STATE);
        due("image()", x.image(), STATE);
        due("restore()", x.restore(), STATE);
        due("CELL 0", x.cell(0, 0), UNKNOWN);
        due("LEAPER 0", x.leaper(0, 0), UNKNOWN);
        for (int what = 0; what <= 8; what++) {
            due("count(" + what + ")", x.count(what), 0);
        }
    }

    // ---- promise 2

    private static void letterCodes() {
        checks.about("Promise 2: OUTSIDE: code (32 to 126)");
        int[] wrong = {LEAST, -1, 0, FIRST_CODE - 1, LAST_CODE + 1, 256 + '2', 65536 + '2', GREATEST};
        LeapBoard x = written("2");
        for (int code : wrong) {
            checks.refused(x, "letter(" + code + ")", OUTSIDE, y -> y.letter(code));
        }
        due("32", x.letter(FIRST_CODE), 2);
        due("126", x.letter(LAST_CODE), 3);
        for (int code = -40; code <= 170; code++) {
            boolean isCode = code >= FIRST_CODE && code <= LAST_CODE;
            due("letter(" + code + ") on a new object", new LeapBoard().letter(code), isCode ? 1 : OUTSIDE);
        }
    }

    private static void lettersFull() {
        checks.about("Promise 2: FULL: above 30");
        LeapBoard x = new LeapBoard();
        for (int many = 1; many <= MOST_LETTERS; many++) {
            due("letter " + many, x.letter('2'), many);
        }
        checks.refused(x, "letter 31", FULL, y -> y.letter('2'));
        due("how many", x.count(7), MOST_LETTERS);
        due("blank()", x.blank(), MOST_LETTERS);
        due("a letter again", x.letter('2'), 1);
    }

    private static void letterOutsideAheadOfFull() {
        checks.about("Promise 2: OUTSIDE, FULL: the first as told");
        LeapBoard x = written(".".repeat(MOST_LETTERS));
        checks.refused(x, "letter(31)", OUTSIDE, y -> y.letter(FIRST_CODE - 1));
        checks.refused(x, "letter(127)", OUTSIDE, y -> y.letter(LAST_CODE + 1));
        checks.refused(x, "letter(32)", FULL, y -> y.letter(FIRST_CODE));
        checks.refused(x, "letter(126)", FULL, y -> y.letter(LAST_CODE));
    }

    // ---- promise 3

    private static void blankOfEmptyAndFull() {
        checks.about("Promise 3: THE PAGE is empty: how many letters it had");
        LeapBoard x = new LeapBoard();
        due("on a new object", x.blank(), 0);
        x.letter('2');
        due("one letter", x.blank(), 1);
        due("none any more", x.blank(), 0);
        Checks.write(x, ".".repeat(MOST_LETTERS));
        due("30", x.blank(), MOST_LETTERS);
        due("empty", x.count(7), 0);
        due("no fault", x.fault(), 0);
        Checks.write(x, "22;....;ka");
        due("nothing of the former letters", x.board(), 4);
        due("behind board()", x.blank(), 0);
    }

    private static void blankLeavesTheBoard() {
        checks.about("Promise 3: THE PAGE alone is empty");
        LeapBoard x = Checks.on("34;............;ka,wb");
        x.leap(1, 2);
        x.see(0, 1, 2, true);
        x.image();
        long ahead = x.digest();
        Checks.write(x, "22;");
        due("three letters", x.blank(), 3);
        due("digest()", x.digest(), ahead);
        due("the IMAGE", x.restore(), 1);
    }

    // ---- promise 4

    private static void faultOfEmptyAndFull() {
        checks.about("Promise 4: how many letters it has, if there is none");
        due("an empty PAGE", faultOf(""), 0);
        due("one", faultOf("2"), 1);
        for (int many = 0; many <= LONGEST.length(); many++) {
            due("the first " + many, faultOf(LONGEST.substring(0, many)), many);
        }
        // 30 letters without a fault cannot be: the longest board has 27
        due("30 letters, none right", faultOf("~".repeat(MOST_LETTERS)), 0);
        due("30 letters, 27 right", faultOf(LONGEST + "~~~"), LONGEST.length());
    }

    private static void faultAtTheLastPlace() {
        checks.about("Promise 4: the place (from 0) of the first letter");
        for (int place = 0; place < LONGEST.length(); place++) {
            String ahead = LONGEST.substring(0, place);
            due("fault() of " + ahead + "~", faultOf(ahead + "~"), place);
            String twice = ahead + "~" + LONGEST.substring(place + 1);
            due("fault() of " + twice, faultOf(twice), place);
            due("with another one behind", faultOf(ahead + "~~"), place);
        }
        due("behind the longest", faultOf(LONGEST + ","), LONGEST.length());
    }

    private static void faultBehindThoseAheadAlone() {
        checks.about("Promise 4: behind those ahead of it");
        // a ninth sign fits where nine cells are told, not where eight are
        due("nine signs of 33", faultOf("33;........."), 12);
        due("nine signs of 24", faultOf("24;........."), 11);
        due("a cell of 34, not of 33", faultOf("33;.........;kj"), 14);
        due("a cell of 34", faultOf("34;............;kj"), 18);
    }

    private static void faultNeedNotSeeOn() {
        checks.about("Promise 4: it need not be seen whether one can go on from it");
        due("HOLES alone", faultOf("22;####;"), 8);
        due("a KIND, though no CELL is FREE", faultOf("22;####;k"), 9);
        due("any CELL then", faultOf("22;####;ka"), 9);
        due("',' though all FREE ones are taken", faultOf("22;.###;ka,"), 11);
        due("a KIND, too", faultOf("22;.###;ka,k"), 12);
        due("any CELL then, too", faultOf("22;.###;ka,ka"), 12);
        due("HOLES alone are no BOARD", boardOf("22;####;"), STATE);
    }

    private static void faultChangesNothing() {
        checks.about("Promise 4: fault() changes nothing");
        LeapBoard x = Checks.on("22;....;ka");
        Checks.write(x, "22;....;kb,x");
        long ahead = x.digest();
        due("fault()", x.fault(), 11);
        due("fault() again", x.fault(), 11);
        due("digest()", x.digest(), ahead);
    }

    // ---- promise 5

    private static void boardIsNone() {
        checks.about("Promise 5: STATE: it is none");
        due("an empty PAGE", boardOf(""), STATE);
        due("30 letters", boardOf("2".repeat(MOST_LETTERS)), STATE);
        for (int many = 0; many <= LONGEST.length(); many++) {
            boolean isWhole = many == 18 || many == 21 || many == 24 || many == 27;
            due("the first " + many, boardOf(LONGEST.substring(0, many)), isWhole ? 12 : STATE);
        }
        for (int many = 0; many < 10; many++) {
            due("the first " + many + " of the shortest", boardOf("22;....;ka".substring(0, many)), STATE);
        }
        due("a fault in the last letter", boardOf("34;............;ka,wb,fc,bc"), STATE);
        due("a letter too much", boardOf(LONGEST + " "), STATE);
    }

    private static void boardRefusedChangesNothing() {
        checks.about("Promise 5: STATE changes nothing");
        LeapBoard x = new LeapBoard();
        checks.refused(x, "board() of an empty PAGE, no BOARD", STATE, LeapBoard::board);
        x = Checks.on("33;.........;ka,wb");
        x.leap(1, 2);
        x.see(0, 1, 2, true);
        x.image();
        checks.refused(x, "board() of an empty PAGE", STATE, LeapBoard::board);
        Checks.write(x, "22;....;w");
        checks.refused(x, "board() of what is not whole", STATE, LeapBoard::board);
        due("the letters stay", x.count(7), 9);
        Checks.write(x, "a~");
        checks.refused(x, "board() of what has a fault", STATE, LeapBoard::board);
        due("no BOARD was read", x.count(8), 1);
        due("the IMAGE stays", x.restore(), 1);
    }

    private static void boardIsReadWhole() {
        checks.about("Promise 5: how many CELLS; THE PAGE is empty then");
        for (String size : SIZES) {
            LeapBoard x = written(open(size) + "ka");
            due(size, x.board(), cellsOf(size));
            due(size + ", ROWS", x.count(0), size.charAt(0) - '0');
            due(size + ", COLUMNS", x.count(1), size.charAt(1) - '0');
            due(size + ", the last CELL", x.cell(cellsOf(size) - 1, 0), 1);
            due(size + ", behind it", x.cell(cellsOf(size), 0), UNKNOWN);
            due(size + ", letters", x.count(7), 0);
            due(size + ", again", x.board(), STATE);
        }
    }

    private static void anotherBoardIsGone() {
        checks.about("Promise 5: another one is gone");
        LeapBoard x = Checks.on("34;............;ba,wc,kl,fd");
        Checks.write(x, "22;.#..;cd");
        due("the smaller one", x.board(), 4);
        LeapBoard only = Checks.on("22;.#..;cd");
        for (int kind = 0; kind < 5; kind++) {
            due("PEACE of " + kind, x.peace(kind, 1), only.peace(kind, 1));
            due("GUARD of " + kind, x.guard(kind, 1), only.guard(kind, 1));
            due("PARTS of " + kind, x.parts(kind, 0), only.parts(kind, 0));
        }
        due("LEAPERS", x.count(3), 1);
        due("his CELL", x.leaper(0, 1), 3);
        due("the second one", x.leaper(1, 0), UNKNOWN);
        due("CELL 4", x.cell(4, 0), UNKNOWN);
        due("nobody stands where the first one stood", x.cell(0, 1), NONE);
        due("nobody stands where the second one stood", x.cell(2, 1), NONE);
        Checks.write(x, "34;............;ba,wc,kl,fd");
        due("the larger one again", x.board(), 12);
        due("the HOLE is gone", x.cell(1, 0), 1);
        due("the fourth one", x.leaper(3, 1), 3);
    }

    private static void allThatWasIsGone() {
        checks.about("Promise 5: with all that was");
        LeapBoard x = Checks.on("22;....;wa,kd");
        x.leap(0, 1);
        x.see(0, 0, 1, true);
        x.image();
        x.dig(0);
        x.be(1, 4);
        Checks.write(x, "22;....;wa,kd");
        due("the same text", x.board(), 4);
        due("LEAPS", x.count(4), 0);
        due("SEEN", x.count(6), 0);
        due("SORTS", x.leaper(0, 4), 31);
        due("where he stands", x.leaper(0, 1), 0);
        due("the KIND", x.leaper(1, 0), 0);
        due("the HOLE", x.cell(0, 0), 1);
        due("how often a BOARD was read stays", x.count(8), 2);
        due("the IMAGE", x.restore(), STATE);
    }
}
