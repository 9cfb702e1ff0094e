/** Each promise by its number: ordinary calls, the edges that the document names, refusals. */
public final class PromiseTest {
    private static final int NONE = -1, UNKNOWN = -101, OUTSIDE = -102, STATE = -103, FULL = -104;
    private static final int LEAST = Integer.MIN_VALUE, GREATEST = Integer.MAX_VALUE;
    private static final Checks checks = new Checks();

    private static void due(String call, long got, long want) {
        checks.due(call, got, want);
    }

    private static LeapBoard on(String text) {
        return Checks.on(text);
    }

    private static int faultOf(String text) {
        LeapBoard x = new LeapBoard();
        Checks.write(x, text);
        return x.fault();
    }

    private static int boardOf(String text) {
        LeapBoard x = new LeapBoard();
        Checks.write(x, text);
        return x.board();
    }

    public static void main(String[] args) {
        newObject();
        letters();
        blanks();
        faults();
        boards();
        leapers();
        leaperWays();
        casts();
        cells();
        leaps();
        digs();
        fills();
        kinds();
        hops();
        trades();
        peaces();
        guards();
        parts();
        chances();
        sights();
        asks();
        forgets();
        walks();
        images();
        restores();
        counts();
        digests();
        checks.end();
    }

    private static void newObject() {
        checks.about("promise 1");
        LeapBoard x = new LeapBoard();
        for (int what = 0; what <= 8; what++) {
            due("count " + what, x.count(what), 0);
        }
        due("leaper", x.leaper(0, 0), UNKNOWN);
        due("as", x.as(0, 0), UNKNOWN);
        due("cell", x.cell(0, 0), UNKNOWN);
        due("leap", x.leap(0, 0), UNKNOWN);
        due("dig", x.dig(0), UNKNOWN);
        due("fill", x.fill(0), UNKNOWN);
        due("be", x.be(0, 0), UNKNOWN);
        due("hops", x.hops(0, 0), UNKNOWN);
        due("trade", x.trade(0, 1), UNKNOWN);
        due("chance", x.chance(0, 0, 0), UNKNOWN);
        due("see", x.see(0, 0, 0, true), UNKNOWN);
        due("forget", x.forget(), 0);
        due("blank", x.blank(), 0);
        due("fault", x.fault(), 0);
        due("board", x.board(), STATE);
        due("image", x.image(), STATE);
        due("restore", x.restore(), STATE);
        long h = 1301;
        for (int i = 0; i < 9; i++) {
            h *= 31;
        }
        due("digest", x.digest(), h);
        due("NONE", LeapBoard.NONE, NONE);
        due("UNKNOWN", LeapBoard.UNKNOWN, UNKNOWN);
        due("OUTSIDE", LeapBoard.OUTSIDE, OUTSIDE);
        due("STATE", LeapBoard.STATE, STATE);
        due("FULL", LeapBoard.FULL, FULL);
    }

    private static void letters() {
        checks.about("promise 2");
        LeapBoard x = new LeapBoard();
        due("31", x.letter(31), OUTSIDE);
        due("127", x.letter(127), OUTSIDE);
        due("least", x.letter(LEAST), OUTSIDE);
        due("greatest", x.letter(GREATEST), OUTSIDE);
        for (int i = 1; i <= 30; i++) {
            due("letter " + i, x.letter(i % 2 == 0 ? 32 : 126), i);
        }
        due("one more", x.letter(50), FULL);
        due("one more outside", x.letter(127), OUTSIDE);
        due("count", x.count(7), 30);
    }

    private static void blanks() {
        checks.about("promise 3");
        LeapBoard x = new LeapBoard();
        Checks.write(x, "22;");
        due("three", x.blank(), 3);
        due("none", x.blank(), 0);
        due("first again", x.letter('2'), 1);
        x.blank();
        Checks.write(x, "22;....;ka");
        due("board behind a blank", x.board(), 4);
        Checks.write(x, "33");
        due("two", x.blank(), 2);
        due("the board stays", x.count(0), 2);
    }

    private static void faults() {
        checks.about("promise 4");
        due("empty", faultOf(""), 0);
        due("one row", faultOf("1"), 0);
        due("four rows", faultOf("4"), 0);
        due("two rows", faultOf("2"), 1);
        due("three rows", faultOf("3"), 1);
        due("one column", faultOf("21"), 1);
        due("five columns", faultOf("35"), 1);
        due("two columns", faultOf("22"), 2);
        due("four columns", faultOf("24"), 2);
        due("no ;", faultOf("24:"), 2);
        due("a strange sign", faultOf("22;..x.;ka"), 5);
        due("; too early", faultOf("22;...;"), 6);
        due("a sign too much", faultOf("22;....."), 7);
        due("twelve signs", faultOf("34;............;"), 16);
        due("thirteen signs", faultOf("34;............."), 15);
        due("no such kind", faultOf("22;....;x"), 8);
        due("a capital", faultOf("22;....;K"), 8);
        due("all kinds", faultOf("32;......;ka,wb,fc,cd"), 21);
        due("both", faultOf("22;....;ba"), 10);
        due("no such cell", faultOf("22;....;ke"), 9);
        due("last cell", faultOf("22;....;kd"), 10);
        due("letter ahead of a", faultOf("22;....;k`"), 9);
        due("last of twelve", faultOf("34;............;kl"), 18);
        due("behind the last of twelve", faultOf("34;............;km"), 17);
        due("on a hole", faultOf("22;.#..;kb"), 9);
        due("only holes can be gone on with", faultOf("22;####;k"), 9);
        due("only holes", faultOf("22;####;ka"), 9);
        due("two in a cell", faultOf("22;....;ka,wb,fa"), 15);
        due("no comma", faultOf("22;....;ka;"), 10);
        due("comma", faultOf("22;....;ka,"), 11);
        due("comma though all is taken", faultOf("22;.###;ka,k"), 12);
        due("taken", faultOf("22;.###;ka,ka"), 12);
        due("two commas", faultOf("22;....;ka,,"), 11);
        due("a fifth", faultOf("23;......;ka,kb,kc,kd,"), 21);
        due("four", faultOf("23;......;ka,kb,kc,kd"), 21);
        due("the first of two faults", faultOf("22;.x.x;"), 4);
        due("spaces", faultOf("      "), 0);
        LeapBoard x = new LeapBoard();
        for (int i = 0; i < 30; i++) {
            x.letter('~');
        }
        due("thirty", x.fault(), 0);
    }

    private static void boards() {
        checks.about("promise 5");
        due("2 x 2", boardOf("22;....;ka"), 4);
        due("2 x 3", boardOf("23;......;ka"), 6);
        due("2 x 4", boardOf("24;........;ka"), 8);
        due("3 x 2", boardOf("32;......;ka"), 6);
        due("3 x 3", boardOf("33;.........;ka"), 9);
        due("3 x 4", boardOf("34;............;ka,wb,fc,bd"), 12);
        String whole = "22;.#..;ka,cd";
        for (int i = 0; i < whole.length(); i++) {
            due(whole.substring(0, i), boardOf(whole.substring(0, i)), i == 10 ? 4 : STATE);
        }
        due("whole", boardOf(whole), 4);
        due("a letter too much", boardOf(whole + " "), STATE);
        due("on a hole", boardOf("22;.#..;kb"), STATE);
        due("five", boardOf("23;......;ka,kb,kc,kd,ke"), STATE);

        LeapBoard x = on("33;.........;ka,wb");
        due("the page is empty", x.count(7), 0);
        x.leap(1, 2);
        x.see(0, 1, 2, true);
        x.image();
        Checks.write(x, "22;...#;wc,");
        due("not whole", x.board(), STATE);
        due("the page stays", x.count(7), 11);
        due("the leaps stay", x.count(4), 1);
        due("what is seen stays", x.count(6), 1);
        due("the image stays", x.restore(), 1);
        due("read once", x.count(8), 1);
        x.blank();
        Checks.write(x, "22;...#;wc");
        due("whole", x.board(), 4);
        due("no leaps", x.count(4), 0);
        due("nothing seen", x.count(6), 0);
        due("no image", x.restore(), STATE);
        due("read twice", x.count(8), 2);
        due("one leaper", x.count(3), 1);
        due("the second is gone", x.leaper(1, 0), UNKNOWN);
        due("his cell", x.leaper(0, 1), 2);
        due("his kind", x.leaper(0, 0), 1);
        due("the hole", x.cell(3, 0), 0);
        due("cell of the former", x.cell(4, 0), UNKNOWN);
        x = on("22;....;wa,wd");
        Checks.write(x, "22;....;wa");
        x.board();
        due("nobody where the second stood", x.cell(3, 1), NONE);
        due("his cell can be dug", x.dig(3), 3);
    }

    private static void leapers() {
        checks.about("promise 6");
        LeapBoard x = on("34;............;ka,wf,fg,cd");
        for (int i = 0; i < 4; i++) {
            due("kind " + i, x.leaper(i, 0), i);
        }
        due("both", on("22;....;bb").leaper(0, 0), 4);
        due("stands on a", x.leaper(0, 1), 0);
        due("stands on f", x.leaper(1, 1), 5);
        // from a (0, 0) a plain one goes to (1, 2) and (2, 1): g and j
        due("plain watches", x.leaper(0, 2), 1 << 6 | 1 << 9);
        due("plain can leap", x.leaper(0, 3), 1 << 9);
        // from f (1, 1) a stepper goes to b, e, g, j
        due("stepper watches", x.leaper(1, 2), 1 << 1 | 1 << 4 | 1 << 6 | 1 << 9);
        due("stepper can leap", x.leaper(1, 3), 1 << 1 | 1 << 4 | 1 << 9);
        // from g (1, 2) a slant goes to b, d, j, l
        due("slant watches", x.leaper(2, 2), 1 << 1 | 1 << 3 | 1 << 9 | 1 << 11);
        due("slant can leap", x.leaper(2, 3), 1 << 1 | 1 << 9 | 1 << 11);
        // from d (0, 3) a far one goes to e (1, 0) alone
        due("far watches", x.leaper(3, 2), 1 << 4);
        x.be(1, 4);
        // from f (1, 1) a plain one goes to d (0, 3) and l (2, 3), too
        due("both watches", x.leaper(1, 2), 1 << 1 | 1 << 4 | 1 << 6 | 1 << 9 | 1 << 3 | 1 << 11);
        x.dig(9);
        due("no hole is watched", x.leaper(0, 2), 1 << 6);
        due("sorts at first", x.leaper(0, 4), 31);
        due("ask at first", x.leaper(0, 5), 1);
        due("8", x.leaper(0, 8), OUTSIDE);
        due("-1", x.leaper(0, -1), OUTSIDE);
        due("least", x.leaper(0, LEAST), OUTSIDE);
        due("no such one", x.leaper(4, 0), UNKNOWN);
        due("below", x.leaper(-1, 0), UNKNOWN);
        due("unknown is told first", x.leaper(4, 8), UNKNOWN);
        due("greatest", x.leaper(GREATEST, GREATEST), UNKNOWN);
    }

    private static void leaperWays() {
        checks.about("promise 6, WAY");
        LeapBoard stuck = on("22;....;ka");
        due("he cannot leap", stuck.leaper(0, 6), 1);
        due("to none", stuck.leaper(0, 7), NONE);
        LeapBoard x = on("33;.........;wa");
        due("over all", x.leaper(0, 6), 9);
        due("b as good as d", x.leaper(0, 7), 1);
        // from b (0, 1) a stepper cannot go over all nine: the corners are five of one shade
        x = on("33;.........;wb");
        due("eight of nine", x.leaper(0, 6), 8);
        due("first to a", x.leaper(0, 7), 0);
        // abc over def: b a d e f c
        x = on("23;......;wb");
        due("six", x.leaper(0, 6), 6);
        due("first a", x.leaper(0, 7), 0);
        x.dig(3);
        // b c f e and b e f c go over as many
        due("four", x.leaper(0, 6), 4);
        due("first c", x.leaper(0, 7), 2);
        x = on("23;......;wa,ke");
        // the other one stays on e: a b c f
        due("round the other one", x.leaper(0, 6), 4);
        due("first b", x.leaper(0, 7), 1);
        x = on("34;............;bf");
        due("both over all", x.leaper(0, 6), 12);
    }

    private static void casts() {
        checks.about("promise 7");
        LeapBoard x = on("33;.........;ka,wb,fc,cd");
        for (int own = 0; own < 4; own++) {
            for (int kind = 0; kind < 5; kind++) {
                due(own + " as " + kind, x.as(own, kind), kind == 0 || kind == own ? own : NONE);
            }
        }
        x.be(3, 4);
        due("both as plain", x.as(3, 0), 3);
        due("both as stepper", x.as(3, 1), 3);
        due("both as slant", x.as(3, 2), NONE);
        due("both as far", x.as(3, 3), NONE);
        due("both as both", x.as(3, 4), 3);
        due("5", x.as(0, 5), OUTSIDE);
        due("-1", x.as(0, -1), OUTSIDE);
        due("no such one", x.as(4, 0), UNKNOWN);
        due("unknown first", x.as(-1, 9), UNKNOWN);
    }

    private static void cells() {
        checks.about("promise 8");
        LeapBoard x = on("23;..#...;wa,kb,bd");
        due("free", x.cell(0, 0), 1);
        due("a hole", x.cell(2, 0), 0);
        due("who", x.cell(0, 1), 0);
        due("the third", x.cell(3, 1), 2);
        due("nobody", x.cell(4, 1), NONE);
        due("nobody on a hole", x.cell(2, 1), NONE);
        // a is watched by the one on d (a step); b by the one on a
        due("who watches a", x.cell(0, 2), 4);
        due("who watches b", x.cell(1, 2), 1);
        due("who watches d", x.cell(3, 2), 1);
        due("who watches e", x.cell(4, 2), 4);
        due("who watches f", x.cell(5, 2), 0);
        due("who watches a hole", x.cell(2, 2), 0);
        x.fill(2);
        due("filled, it is watched", x.cell(2, 2), 4);
        due("3", x.cell(0, 3), OUTSIDE);
        due("-1", x.cell(0, -1), OUTSIDE);
        due("no such cell", x.cell(6, 0), UNKNOWN);
        due("below", x.cell(-1, 0), UNKNOWN);
        due("unknown first", x.cell(12, 3), UNKNOWN);
        due("least", x.cell(LEAST, LEAST), UNKNOWN);
    }

    private static void leaps() {
        checks.about("promise 9");
        LeapBoard x = on("33;.....#...;wa,kb");
        due("a step", x.leap(0, 3), 1);
        due("he is there", x.leaper(0, 1), 3);
        due("another", x.leap(1, 6), 2);
        due("onto another", x.leap(0, 6), STATE);
        due("where he is", x.leap(0, 3), STATE);
        due("too far", x.leap(0, 2), STATE);
        due("back", x.leap(0, 0), 3);
        due("onto a hole", x.leap(1, 5), STATE);
        due("no leaper", x.leap(2, 0), UNKNOWN);
        due("no cell", x.leap(0, 9), UNKNOWN);
        due("below", x.leap(0, -1), UNKNOWN);
        due("how many", x.count(4), 3);
        for (int i = 4; i <= 480; i++) {
            due("to and fro", x.leap(0, i % 2 == 0 ? 3 : 0), i);
        }
    }

    private static void digs() {
        checks.about("promise 10");
        LeapBoard x = on("22;...#;wa");
        due("b", x.dig(1), 2);
        due("again", x.dig(1), STATE);
        due("a hole from the first", x.dig(3), STATE);
        due("where one stands", x.dig(0), STATE);
        due("c", x.dig(2), 1);
        due("no cell", x.dig(4), UNKNOWN);
        due("below", x.dig(-1), UNKNOWN);
        due("he can leap nowhere", x.leaper(0, 3), 0);
        due("free", x.count(2), 1);
    }

    private static void fills() {
        checks.about("promise 11");
        LeapBoard x = on("22;.###;wa");
        due("d", x.fill(3), 2);
        due("again", x.fill(3), STATE);
        due("where one stands", x.fill(0), STATE);
        due("b", x.fill(1), 3);
        due("c", x.fill(2), 4);
        due("no cell", x.fill(4), UNKNOWN);
        due("below", x.fill(-1), UNKNOWN);
        due("least", x.fill(LEAST), UNKNOWN);
        due("he can leap", x.leaper(0, 3), 6);
    }

    private static void kinds() {
        checks.about("promise 12");
        LeapBoard x = on("22;....;ka,wb");
        due("plain to both", x.be(0, 4), 0);
        due("both to slant", x.be(0, 2), 4);
        due("the same", x.be(0, 2), 2);
        due("he is one", x.leaper(0, 0), 2);
        due("he goes as one", x.leaper(0, 2), 8);
        due("the other one is not", x.leaper(1, 0), 1);
        due("5", x.be(0, 5), OUTSIDE);
        due("-1", x.be(0, -1), OUTSIDE);
        due("no such one", x.be(2, 0), UNKNOWN);
        due("unknown first", x.be(2, 5), UNKNOWN);
        due("nothing changed", x.leaper(0, 0), 2);
    }

    private static void hops() {
        checks.about("promise 13");
        LeapBoard x = on("33;....#....;ka,ki,wb");
        due("he is there", x.hops(0, 0), 0);
        due("one", x.hops(0, 7), 1);
        // the ring of the eight is a h c d i b g f
        due("three", x.hops(0, 3), 3);
        due("where another stands", x.hops(0, 8), NONE);
        due("a hole", x.hops(0, 4), NONE);
        due("no leaper", x.hops(3, 0), UNKNOWN);
        due("no cell", x.hops(0, 9), UNKNOWN);
        due("below", x.hops(-1, -1), UNKNOWN);
        x = on("34;............;wa");
        due("across", x.hops(0, 11), 5);
        x = on("34;...##...#...;wa");
        due("along a winding way", x.hops(0, 11), 5);
        // a b c f i h g
        x = on("33;...##....;wa");
        due("round the holes", x.hops(0, 6), 6);
        x = on("22;....;ca");
        due("none leads there", x.hops(0, 1), NONE);
        due("but he is here", x.hops(0, 0), 0);
    }

    private static void trades() {
        checks.about("promise 14");
        LeapBoard x = on("22;....;wa,wb");
        // on a ring of four, one goes round: a d.. three leaps of the one, one of the other
        due("on a ring", x.trade(0, 1), 4);
        due("the other way", x.trade(1, 0), 4);
        x.dig(3);
        due("on a line", x.trade(0, 1), NONE);
        x = on("22;....;fa,wd");
        // a slant reaches a and d alone: the stepper goes d b, the slant a d, the stepper b a
        due("a slant and a stepper", x.trade(0, 1), 3);
        x = on("22;....;fa,wb");
        due("a slant never comes to b", x.trade(0, 1), NONE);
        x = on("22;....;ka,kb");
        due("none can leap", x.trade(0, 1), NONE);
        x = on("22;....;wa,wd");
        due("across", x.trade(0, 1), 4);
        x = on("22;....;wa,wb,wc");
        due("a third stays", x.trade(0, 1), NONE);
        due("same", x.trade(1, 1), UNKNOWN);
        due("no one", x.trade(3, 0), UNKNOWN);
        due("no other", x.trade(0, 3), UNKNOWN);
        due("below", x.trade(-1, -1), UNKNOWN);
        due("both unknown", x.trade(LEAST, GREATEST), UNKNOWN);
    }

    private static void peaces() {
        checks.about("promise 15");
        LeapBoard x = on("22;....;ka,wb");
        due("plain: all", x.peace(0, 0), 4);
        due("plain: which", x.peace(0, 1), 15);
        due("steppers", x.peace(1, 0), 2);
        // a and d (9) or b and c (6)
        due("steppers: which", x.peace(1, 1), 6);
        due("slants", x.peace(2, 0), 2);
        // a b (3), a c (5), b d (10), c d (12)
        due("slants: which", x.peace(2, 1), 3);
        due("far", x.peace(3, 0), 4);
        due("both", x.peace(4, 1), 6);
        x.dig(2);
        due("with a hole: a and d", x.peace(1, 1), 9);
        x = on("33;.........;wa");
        due("five of nine", x.peace(1, 0), 5);
        due("which", x.peace(1, 1), 1 | 4 | 16 | 64 | 256);
        due("kind 5", x.peace(5, 0), OUTSIDE);
        due("kind -1", x.peace(-1, 0), OUTSIDE);
        due("what 2", x.peace(0, 2), OUTSIDE);
        due("what -1", x.peace(0, -1), OUTSIDE);
        x = new LeapBoard();
        due("no board", x.peace(0, 0), STATE);
        due("outside first", x.peace(5, 0), OUTSIDE);
        due("outside first, what", x.peace(0, 2), OUTSIDE);
    }

    private static void guards() {
        checks.about("promise 16");
        LeapBoard x = on("22;....;ka,wb");
        due("plain: all", x.guard(0, 0), 4);
        due("plain: which", x.guard(0, 1), 15);
        due("steppers", x.guard(1, 0), 2);
        // a watches b and c; with any other one all is guarded: a b
        due("steppers: which", x.guard(1, 1), 3);
        due("slants: a b", x.guard(2, 1), 3);
        x.dig(3);
        // from a b and c are watched
        due("one stepper", x.guard(1, 0), 1);
        due("one stepper: a", x.guard(1, 1), 1);
        due("slants: a and either", x.guard(2, 1), 3);
        x = on("33;.........;wa");
        // no two guard nine: a middle and an edge cover seven at most
        due("three steppers", x.guard(1, 0), 3);
        x = on("23;......;wa");
        // a f (33) and c d (12), b e (18): the least is 12
        due("two steppers", x.guard(1, 0), 2);
        due("two steppers: which", x.guard(1, 1), 12);
        due("kind 5", x.guard(5, 0), OUTSIDE);
        due("kind -1", x.guard(-1, 0), OUTSIDE);
        due("what 2", x.guard(0, 2), OUTSIDE);
        due("what -1", x.guard(0, -1), OUTSIDE);
        x = new LeapBoard();
        due("no board", x.guard(0, 0), STATE);
        due("outside first", x.guard(5, 0), OUTSIDE);
        due("outside first, what", x.guard(0, 2), OUTSIDE);
    }

    private static void parts() {
        checks.about("promise 17");
        LeapBoard x = on("33;.........;ka,wb");
        due("plain: the ring and the middle", x.parts(0, 0), 2);
        due("steppers", x.parts(1, 0), 1);
        due("slants: two shades", x.parts(2, 0), 2);
        due("far: nine", x.parts(3, 0), 9);
        due("both", x.parts(4, 0), 1);
        x.dig(4);
        due("plain: the ring", x.parts(0, 0), 1);
        due("steppers: a ring", x.parts(1, 0), 1);
        due("slants: four corners and a ring of the rest", x.parts(2, 0), 5);
        x.dig(3);
        x.dig(5);
        due("steppers: two rows", x.parts(1, 0), 2);
        x = on("34;............;ka");
        // d e, e l, a h, h i go together: a h i, d e l and six alone
        due("far on twelve", x.parts(3, 0), 8);
        for (int kind = 0; kind < 5; kind++) {
            due("shades of " + kind, x.parts(kind, 1), 1);
        }
        due("kind 5", x.parts(5, 0), OUTSIDE);
        due("kind -1", x.parts(-1, 0), OUTSIDE);
        due("what 2", x.parts(0, 2), OUTSIDE);
        due("what -1", x.parts(0, -1), OUTSIDE);
        x = new LeapBoard();
        due("no board", x.parts(0, 0), STATE);
        due("outside first", x.parts(5, 0), OUTSIDE);
        due("outside first, what", x.parts(0, 2), OUTSIDE);
    }

    private static void chances() {
        checks.about("promise 18");
        LeapBoard x = on("23;......;wa,cf");
        due("none left: there", x.chance(0, 0, 0), 1000000);
        due("none left: not there", x.chance(0, 1, 0), 0);
        due("one leap", x.chance(0, 1, 1), 500000);
        due("one leap: not here", x.chance(0, 0, 1), 0);
        // from b to a, c, e: 333333 each; from d to a, e: 500000 each
        due("two leaps: a", x.chance(0, 0, 2), (333333 + 500000) / 2);
        due("two leaps: c", x.chance(0, 2, 2), 333333 / 2);
        due("two leaps: e", x.chance(0, 4, 2), (333333 + 500000) / 2);
        due("where another stands", x.chance(0, 5, 3), 0);
        due("he cannot leap: here", x.chance(1, 5, 6), 1000000);
        due("he cannot leap: there", x.chance(1, 0, 6), 0);
        due("7", x.chance(0, 0, 7), OUTSIDE);
        due("-1", x.chance(0, 0, -1), OUTSIDE);
        due("no leaper", x.chance(2, 0, 0), UNKNOWN);
        due("no cell", x.chance(0, 6, 0), UNKNOWN);
        due("unknown first", x.chance(0, 6, 7), UNKNOWN);
        due("least", x.chance(LEAST, LEAST, LEAST), UNKNOWN);
    }

    private static void sights() {
        checks.about("promise 19");
        LeapBoard x = on("22;....;ka,wb");
        due("1", x.see(0, 1, 2, true), 1);
        due("plain or both", x.leaper(0, 4), 1 | 16);
        due("the other one can be all", x.leaper(1, 4), 31);
        due("2", x.see(0, 0, 1, false), 2);
        due("plain", x.leaper(0, 4), 1);
        due("his own kind is another thing", x.be(0, 3), 0);
        due("plain still", x.leaper(0, 4), 1);
        due("3, seen again", x.see(0, 1, 2, true), 3);
        due("4", x.see(1, 3, 1, true), 4);
        due("far", x.leaper(1, 4), 8);
        due("no leaper", x.see(2, 0, 0, true), UNKNOWN);
        due("unknown first", x.see(2, 4, 4, true), UNKNOWN);
        due("rows 4", x.see(0, 4, 0, true), OUTSIDE);
        due("rows -1", x.see(0, -1, 0, true), OUTSIDE);
        due("columns 4", x.see(0, 0, 4, false), OUTSIDE);
        due("columns -1", x.see(0, 0, -1, false), OUTSIDE);
        due("5: could not go nowhere", x.see(1, 0, 0, false), 5);
        due("far still", x.leaper(1, 4), 8);
        due("6: could go nowhere", x.see(1, 0, 0, true), 6);
        due("no sort", x.leaper(1, 4), 0);
        due("7", x.see(0, 0, 0, true), FULL);
        due("outside ahead of full", x.see(0, 4, 0, true), OUTSIDE);
        due("unknown ahead of full", x.see(2, 0, 0, true), UNKNOWN);
        due("how much", x.count(6), 6);
        int[][] goes = {{0, 2, 0, 0}, {2, 4, 1, 8}, {0, 1, 0, 0}, {0, 8, 0, 0}};
        goes[0][1] = goes[1][0] = 2 | 16;
        goes[1][2] = goes[2][1] = 1 | 16;
        for (int rows = 0; rows < 4; rows++) {
            for (int columns = 0; columns < 4; columns++) {
                x.forget();
                x.see(0, rows, columns, true);
                due("sorts of " + rows + " " + columns, x.leaper(0, 4), goes[rows][columns]);
                x.see(1, rows, columns, false);
                due("sorts without", x.leaper(1, 4), 31 & ~goes[rows][columns]);
            }
        }
    }

    private static void asks() {
        checks.about("promise 6, ASK");
        LeapBoard x = on("22;....;ka");
        due("two or three left", x.leaper(0, 5), 1);
        x.see(0, 0, 1, true);
        // stepper or both: 0 1 leaves two, 1 2 one
        due("stepper or both", x.leaper(0, 5), 12);
        x.see(0, 1, 2, true);
        due("one is left: any will do", x.leaper(0, 5), 0);
        x.see(0, 1, 2, false);
        due("none is left", x.leaper(0, 5), NONE);
        x.forget();
        x.see(0, 0, 1, false);
        // plain, slant, far: 1 1 leaves two at worst
        due("plain, slant, far", x.leaper(0, 5), 11);
        x.see(0, 1, 1, false);
        due("plain, far", x.leaper(0, 5), 12);
        x.see(0, 2, 1, false);
        due("far", x.leaper(0, 5), 0);
    }

    private static void forgets() {
        checks.about("promise 20");
        LeapBoard x = on("22;....;ka,wb");
        due("nothing", x.forget(), 0);
        x.see(0, 1, 2, true);
        x.see(1, 0, 1, true);
        due("two", x.forget(), 2);
        due("nothing any more", x.forget(), 0);
        due("count", x.count(6), 0);
        due("all sorts", x.leaper(0, 4), 31);
        due("first again", x.see(1, 0, 1, false), 1);
        due("only that", x.leaper(1, 4), 31 & ~18);
    }

    private static void walks() {
        checks.about("promise 21");
        LeapBoard x = on("22;....;ka");
        // he stays: a draw for the leaper each time, none for the cell
        due("no leap", x.walks(2, 0, 0), 0);
        due("none watched", x.walks(2, 0, 1), 0);
        due("seed behind one", x.walks(1, 0, 2), 12345);
        due("seed behind two", x.walks(2, 0, 2), (1103515245L * 12345 + 12345) % (1L << 31));
        x = on("22;....;wa");
        // a draw of one for the leaper, then one of two for the cell
        long first = 12345;
        long second = (1103515245L * first + 12345) % (1L << 31);
        due("one leap", x.walks(1, 0, 0), 1);
        due("two draws", x.walks(1, 0, 2), second);
        due("two watched", x.walks(1, 0, 1), 2);
        due("all leap", x.walks(60, 7, 0), 60);
        due("as they would be", x.leaper(0, 1), 0);
        due("no leaps were", x.count(4), 0);
        x.leap(0, 1);
        due("of the walks alone", x.walks(3, 7, 0), 3);
        due("times 0", x.walks(0, 0, 0), OUTSIDE);
        due("times 61", x.walks(61, 0, 0), OUTSIDE);
        due("seed -1", x.walks(1, -1, 0), OUTSIDE);
        due("what 3", x.walks(1, 0, 3), OUTSIDE);
        due("what -1", x.walks(1, 0, -1), OUTSIDE);
        due("greatest seed", x.walks(1, GREATEST, 0), 1);
        x = new LeapBoard();
        due("no board", x.walks(1, 0, 0), STATE);
        due("outside first", x.walks(0, 0, 0), OUTSIDE);
    }

    private static void images() {
        checks.about("promise 22");
        LeapBoard x = on("22;....;wa,kd");
        due("none yet", x.image(), 0);
        x.leap(0, 1);
        due("one", x.image(), 1);
        x.leap(0, 0);
        due("the latest", x.restore(), 1);
        due("where he stood", x.leaper(0, 1), 1);
        due("no board", new LeapBoard().image(), STATE);
    }

    private static void restores() {
        checks.about("promise 23");
        LeapBoard x = on("23;.....#;wa,kd");
        due("none kept", x.restore(), STATE);
        x.leap(0, 1);
        x.see(1, 0, 1, true);
        x.image();
        x.leap(0, 2);
        x.dig(4);
        x.fill(5);
        x.be(1, 3);
        x.see(1, 0, 2, true);
        x.letter('2');
        due("back", x.restore(), 1);
        due("where he stood", x.leaper(0, 1), 1);
        due("his kind", x.leaper(1, 0), 0);
        due("no hole", x.cell(4, 0), 1);
        due("a hole", x.cell(5, 0), 0);
        due("seen", x.count(6), 1);
        due("what was seen", x.leaper(1, 4), 18);
        due("leaps", x.count(4), 1);
        due("the page is not of the image", x.count(7), 1);
        x.leap(0, 2);
        x.forget();
        due("once more", x.restore(), 1);
        due("seen once more", x.leaper(1, 4), 18);
        x.blank();
        Checks.write(x, "23;.....#;wa,kd");
        x.board();
        due("the same text", x.restore(), STATE);
        x.image();
        due("kept anew", x.restore(), 0);
        due("on a new object", new LeapBoard().restore(), STATE);
    }

    private static void counts() {
        checks.about("promise 24");
        LeapBoard x = on("34;..#.........;wa,kb");
        x.leap(0, 4);
        x.see(0, 0, 1, true);
        Checks.write(x, "33;");
        due("rows", x.count(0), 3);
        due("columns", x.count(1), 4);
        due("free", x.count(2), 11);
        due("leapers", x.count(3), 2);
        due("leaps", x.count(4), 1);
        // from e: a, f, i; from b (0, 1): h, i, k
        due("watched", x.count(5), 5);
        due("seen", x.count(6), 1);
        due("letters", x.count(7), 3);
        due("boards", x.count(8), 1);
        due("9", x.count(9), OUTSIDE);
        due("-1", x.count(-1), OUTSIDE);
        due("greatest", x.count(GREATEST), OUTSIDE);
    }

    private static void digests() {
        checks.about("promise 25");
        String[] texts = {"22;.###;ka", "22;....;wa,fb", "34;............;ba,kf,cd,fl", "33;....#....;ka,ki,wb"};
        for (String text : texts) {
            LeapBoard x = on(text);
            x.see(0, 1, 2, true);
            x.image();
            Checks.write(x, "2~ ");
            due(text, x.digest(), told(x));
            due(text + " again", x.digest(), told(x));
        }
    }

    private static long told(LeapBoard x) {
        long h = 1301;
        for (int i = 0; i < x.count(3); i++) {
            for (int what = 0; what <= 7; what++) {
                h = 31 * h + x.leaper(i, what);
            }
            h = 31 * h + x.hops(i, 0);
            h = 31 * h + x.chance(i, 3, 3);
        }
        for (int i = 0; i < x.count(0) * x.count(1); i++) {
            for (int what = 0; what <= 2; what++) {
                h = 31 * h + x.cell(i, what);
            }
        }
        for (int kind = 0; kind < 5; kind++) {
            h = (31 * h + x.peace(kind, 0)) * 31 + x.peace(kind, 1);
            h = (31 * h + x.guard(kind, 0)) * 31 + x.guard(kind, 1);
            h = (31 * h + x.parts(kind, 0)) * 31 + x.parts(kind, 1);
        }
        if (x.count(3) >= 2) {
            h = 31 * h + x.trade(0, 1);
        }
        for (char letter : "2~ ".toCharArray()) {
            h = 31 * h + letter;
        }
        for (int what = 0; what <= 8; what++) {
            h = 31 * h + x.count(what);
        }
        return h;
    }
}
