import java.math.BigInteger;
import java.util.ArrayList;
import java.util.List;

/**
 * The boundaries of promises 6 to 25, call by call: the last value that is let through and the first
 * one that is refused, which refusal is told first, and that a refused call changes nothing.
 */
public final class CallBoundsTest {
    private static final int NONE = -1, UNKNOWN = -101, OUTSIDE = -102, STATE = -103, FULL = -104;
    private static final int LEAST = Integer.MIN_VALUE, GREATEST = Integer.MAX_VALUE;
    private static final int KINDS = 5;
    private static final String[] ONE_TO_FOUR = {"ka", "ka,wb", "ka,wb,fc", "ka,wb,fc,cd"};
    private static final Checks checks = new Checks();

    private static void due(String call, long got, long want) {
        checks.due(call, got, want);
    }

    public static void main(String[] args) {
        leaperUnknown();
        leaperOutside();
        leaperUnknownAheadOfOutside();
        asUnknown();
        asOutside();
        asUnknownAheadOfOutside();
        cellUnknown();
        cellOutside();
        cellUnknownAheadOfOutside();
        leapUnknown();
        leapHeCannot();
        leapUnknownAheadOfState();
        digUnknown();
        digStateAndTheLastFreeCell();
        fillUnknown();
        fillStateAndTheLastHole();
        beUnknown();
        beOutside();
        beUnknownAheadOfOutside();
        hopsUnknown();
        tradeUnknown();
        tradeOfOneAlone();
        peaceOutside();
        guardOutside();
        partsOutside();
        noBoardBehindOutside();
        chanceUnknown();
        chanceOutside();
        chanceUnknownAheadOfOutside();
        seeUnknown();
        seeOutside();
        seeFull();
        seeRefusalsInOrder();
        forgetNothingAndAll();
        walksOutside();
        walksNoBoard();
        imageNoBoard();
        imageTheLatest();
        restoreNoneWasKept();
        restoreBoardWasReadSince();
        countOutside();
        countNoBoard();
        digestOfNothing();
        digestOfLettersAlone();
        digestOfOneToFour();
        digestWraps();
        digestChangesNothing();
        allIsRefusedWithoutABoard();
        checks.end();
    }

    /** A board on which much has been done: an IMAGE is kept, and more was done since. */
    private static LeapBoard busy() {
        LeapBoard x = Checks.on("34;....#.......;ka,wb,fc,cd");
        x.leap(1, 5);
        x.see(0, 1, 2, true);
        x.see(1, 0, 1, false);
        x.image();
        x.leap(1, 6);
        x.dig(9);
        x.be(2, 4);
        x.see(1, 1, 1, false);
        Checks.write(x, "33;");
        return x;
    }

    /** Nothing was changed, neither what digest() tells nor the IMAGE. */
    private static void stillBusy(LeapBoard x) {
        LeapBoard twin = busy();
        due("digest() in the end", x.digest(), twin.digest());
        due("restore() in the end", x.restore(), twin.restore());
        due("digest() of the IMAGE", x.digest(), twin.digest());
    }

    /** Numbers that name nothing, where so many are named; some look like others as bits of an int. */
    private static int[] nameless(int many) {
        return new int[] {LEAST, -32, -2, -1, many, many + 1, 32, 33, 64, 1 << 16, GREATEST};
    }

    private static LeapBoard withMen(String men) {
        return Checks.on("22;....;" + men);
    }

    // ---- promise 6

    private static void leaperUnknown() {
        checks.about("Promise 6: UNKNOWN");
        for (int many = 1; many <= 4; many++) {
            LeapBoard x = withMen(ONE_TO_FOUR[many - 1]);
            due("the last of " + many, x.leaper(many - 1, 1), many - 1);
            for (int leaper : nameless(many)) {
                checks.refused(x, "leaper(" + leaper + ", 1) of " + many, UNKNOWN, y -> y.leaper(leaper, 1));
            }
        }
        LeapBoard x = busy();
        for (int what = 0; what <= 7; what++) {
            int asked = what;
            checks.refused(x, "leaper(-1, " + what + ")", UNKNOWN, y -> y.leaper(-1, asked));
            checks.refused(x, "leaper(4, " + what + ")", UNKNOWN, y -> y.leaper(4, asked));
        }
        stillBusy(x);
    }

    private static void leaperOutside() {
        checks.about("Promise 6: what = 0 .. 7; OUTSIDE");
        LeapBoard x = busy();
        due("what = 0", x.leaper(1, 0), 1);
        due("what = 7", x.leaper(3, 7), NONE);
        for (int what : nameless(8)) {
            checks.refused(x, "leaper(0, " + what + ")", OUTSIDE, y -> y.leaper(0, what));
        }
        stillBusy(x);
    }

    private static void leaperUnknownAheadOfOutside() {
        checks.about("Promise 6: UNKNOWN; OUTSIDE: the first as told");
        LeapBoard x = busy();
        checks.refused(x, "leaper(4, 8)", UNKNOWN, y -> y.leaper(4, 8));
        checks.refused(x, "leaper(-1, -1)", UNKNOWN, y -> y.leaper(-1, -1));
        checks.refused(x, "leaper(3, 8)", OUTSIDE, y -> y.leaper(3, 8));
        stillBusy(x);
    }

    // ---- promise 7

    private static void asUnknown() {
        checks.about("Promise 7: UNKNOWN");
        for (int many = 1; many <= 4; many++) {
            LeapBoard x = withMen(ONE_TO_FOUR[many - 1]);
            due("the last of " + many, x.as(many - 1, 0), many - 1);
            for (int leaper : nameless(many)) {
                checks.refused(x, "as(" + leaper + ", 0) of " + many, UNKNOWN, y -> y.as(leaper, 0));
            }
        }
    }

    private static void asOutside() {
        checks.about("Promise 7: OUTSIDE (KINDS 0 to 4); NONE: he is none such");
        LeapBoard x = busy();
        due("0", x.as(0, 0), 0);
        due("4, he is", x.as(2, 4), 2);
        due("4, he is not", x.as(0, 4), NONE);
        for (int kind : nameless(KINDS)) {
            checks.refused(x, "as(0, " + kind + ")", OUTSIDE, y -> y.as(0, kind));
        }
        stillBusy(x);
    }

    private static void asUnknownAheadOfOutside() {
        checks.about("Promise 7: UNKNOWN; OUTSIDE: the first as told");
        LeapBoard x = busy();
        checks.refused(x, "as(4, 5)", UNKNOWN, y -> y.as(4, 5));
        checks.refused(x, "as(-1, -1)", UNKNOWN, y -> y.as(-1, -1));
        checks.refused(x, "as(3, 5)", OUTSIDE, y -> y.as(3, 5));
        stillBusy(x);
    }

    // ---- promise 8

    private static void cellUnknown() {
        checks.about("Promise 8: UNKNOWN");
        LeapBoard small = withMen("ka,wd");
        due("the last of 4", small.cell(3, 1), 1);
        for (int cell : nameless(4)) {
            checks.refused(small, "cell(" + cell + ", 0) of 4", UNKNOWN, y -> y.cell(cell, 0));
        }
        LeapBoard x = busy();
        due("the first of 12", x.cell(0, 1), 0);
        due("the last of 12", x.cell(11, 0), 1);
        for (int cell : nameless(12)) {
            checks.refused(x, "cell(" + cell + ", 2) of 12", UNKNOWN, y -> y.cell(cell, 2));
        }
        stillBusy(x);
    }

    private static void cellOutside() {
        checks.about("Promise 8: what = 0 .. 2; OUTSIDE");
        LeapBoard x = withMen("wa");
        due("what = 0", x.cell(1, 0), 1);
        due("what = 1, nobody", x.cell(1, 1), NONE);
        due("what = 2", x.cell(1, 2), 1);
        due("what = 2, none", x.cell(3, 2), 0);
        for (int what : nameless(3)) {
            checks.refused(x, "cell(0, " + what + ")", OUTSIDE, y -> y.cell(0, what));
        }
    }

    private static void cellUnknownAheadOfOutside() {
        checks.about("Promise 8: UNKNOWN; OUTSIDE: the first as told");
        LeapBoard x = busy();
        checks.refused(x, "cell(12, 3)", UNKNOWN, y -> y.cell(12, 3));
        checks.refused(x, "cell(-1, -1)", UNKNOWN, y -> y.cell(-1, -1));
        checks.refused(x, "cell(11, 3)", OUTSIDE, y -> y.cell(11, 3));
        stillBusy(x);
    }

    // ---- promise 9

    private static void leapUnknown() {
        checks.about("Promise 9: UNKNOWN: leaper, cell");
        LeapBoard x = busy();
        for (int leaper : nameless(4)) {
            checks.refused(x, "leap(" + leaper + ", 5)", UNKNOWN, y -> y.leap(leaper, 5));
        }
        for (int cell : nameless(12)) {
            checks.refused(x, "leap(1, " + cell + ")", UNKNOWN, y -> y.leap(1, cell));
        }
        checks.refused(x, "leap(4, 12)", UNKNOWN, y -> y.leap(4, 12));
        stillBusy(x);
        LeapBoard last = Checks.on("34;............;ka,wb,fc,wh");
        due("the last one, to the last CELL", last.leap(3, 11), 1);
        due("the first one, to the first CELL", Checks.on("22;....;wb").leap(0, 0), 1);
    }

    private static void leapHeCannot() {
        checks.about("Promise 9: STATE: he cannot");
        LeapBoard x = busy();
        checks.refused(x, "to a HOLE", STATE, y -> y.leap(0, 9));
        checks.refused(x, "where another one stands", STATE, y -> y.leap(0, 6));
        checks.refused(x, "where he stands", STATE, y -> y.leap(1, 6));
        checks.refused(x, "not so far", STATE, y -> y.leap(1, 8));
        checks.refused(x, "the only CELL of a far one is a HOLE", STATE, y -> y.leap(3, 4));
        stillBusy(x);
        due("none of them was counted", x.leap(1, 6), 2);
        // "FULL: 999 were": no test can stand here, for 999 LEAPS take more than 512 calls; see
        // atMost512Calls() in BoardBoundsTest.
    }

    private static void leapUnknownAheadOfState() {
        checks.about("Promise 9: UNKNOWN, STATE: the first as told");
        LeapBoard x = withMen("ka,kb");
        checks.refused(x, "leap(2, 0), where one stands", UNKNOWN, y -> y.leap(2, 0));
        checks.refused(x, "leap(0, 4), he can LEAP nowhere", UNKNOWN, y -> y.leap(0, 4));
        checks.refused(x, "leap(0, -1)", UNKNOWN, y -> y.leap(0, -1));
        checks.refused(x, "leap(0, 3)", STATE, y -> y.leap(0, 3));
    }

    // ---- promise 10

    private static void digUnknown() {
        checks.about("Promise 10: UNKNOWN");
        LeapBoard x = busy();
        for (int cell : nameless(12)) {
            checks.refused(x, "dig(" + cell + ") of 12", UNKNOWN, y -> y.dig(cell));
        }
        stillBusy(x);
        due("the last of 12", Checks.on("34;............;ka").dig(11), 11);
        due("the first of 12", Checks.on("34;............;kb").dig(0), 11);
        LeapBoard small = withMen("ka");
        for (int cell : nameless(4)) {
            checks.refused(small, "dig(" + cell + ") of 4", UNKNOWN, y -> y.dig(cell));
        }
    }

    private static void digStateAndTheLastFreeCell() {
        checks.about("Promise 10: STATE: it is a HOLE, or somebody stands there");
        LeapBoard x = Checks.on("34;.....#......;wa");
        checks.refused(x, "a HOLE from the first", STATE, y -> y.dig(5));
        int free = 11;
        for (int cell = 11; cell >= 1; cell--) {
            if (cell != 5) {
                free--;
                due("dig(" + cell + ")", x.dig(cell), free);
            }
        }
        checks.refused(x, "a HOLE that was dug", STATE, y -> y.dig(11));
        checks.refused(x, "the last FREE one: he stands there", STATE, y -> y.dig(0));
        due("one is FREE", x.count(2), 1);
        x.fill(1);
        x.leap(0, 1);
        due("he is gone from there", x.dig(0), 1);
    }

    // ---- promise 11

    private static void fillUnknown() {
        checks.about("Promise 11: UNKNOWN");
        LeapBoard x = busy();
        for (int cell : nameless(12)) {
            checks.refused(x, "fill(" + cell + ") of 12", UNKNOWN, y -> y.fill(cell));
        }
        stillBusy(x);
        due("the last of 12", Checks.on("34;...........#;ka").fill(11), 12);
        due("the first of 12", Checks.on("34;#...........;kb").fill(0), 12);
        LeapBoard small = Checks.on("22;.###;ka");
        for (int cell : nameless(4)) {
            checks.refused(small, "fill(" + cell + ") of 4", UNKNOWN, y -> y.fill(cell));
        }
    }

    private static void fillStateAndTheLastHole() {
        checks.about("Promise 11: STATE: it is FREE");
        LeapBoard x = Checks.on("34;.###########;wa");
        checks.refused(x, "where he stands", STATE, y -> y.fill(0));
        for (int cell = 1; cell <= 11; cell++) {
            due("fill(" + cell + ")", x.fill(cell), cell + 1);
        }
        for (int cell = 0; cell <= 11; cell++) {
            int filled = cell;
            checks.refused(x, "fill(" + cell + ") again", STATE, y -> y.fill(filled));
        }
        due("all are FREE", x.count(2), 12);
    }

    // ---- promise 12

    private static void beUnknown() {
        checks.about("Promise 12: UNKNOWN");
        for (int many = 1; many <= 4; many++) {
            LeapBoard x = withMen(ONE_TO_FOUR[many - 1]);
            for (int leaper : nameless(many)) {
                checks.refused(x, "be(" + leaper + ", 4) of " + many, UNKNOWN, y -> y.be(leaper, 4));
            }
            due("the last of " + many, x.be(many - 1, 4), many - 1);
        }
    }

    private static void beOutside() {
        checks.about("Promise 12: OUTSIDE: kind (0 to 4)");
        LeapBoard x = busy();
        for (int kind : nameless(KINDS)) {
            checks.refused(x, "be(0, " + kind + ")", OUTSIDE, y -> y.be(0, kind));
        }
        stillBusy(x);
        due("4", x.be(0, 4), 0);
        due("4, whose he is already", x.be(0, 4), 4);
        due("0", x.be(0, 0), 4);
        due("0 then", x.leaper(0, 0), 0);
    }

    private static void beUnknownAheadOfOutside() {
        checks.about("Promise 12: UNKNOWN; OUTSIDE: the first as told");
        LeapBoard x = busy();
        checks.refused(x, "be(4, 5)", UNKNOWN, y -> y.be(4, 5));
        checks.refused(x, "be(-1, -1)", UNKNOWN, y -> y.be(-1, -1));
        checks.refused(x, "be(3, 5)", OUTSIDE, y -> y.be(3, 5));
        stillBusy(x);
    }

    // ---- promises 13, 14

    private static void hopsUnknown() {
        checks.about("Promise 13: UNKNOWN: leaper, cell; NONE");
        LeapBoard x = busy();
        due("the last one, to his own CELL", x.hops(3, 3), 0);
        due("the last CELL: none", x.hops(3, 11), NONE);
        for (int leaper : nameless(4)) {
            checks.refused(x, "hops(" + leaper + ", 0)", UNKNOWN, y -> y.hops(leaper, 0));
        }
        for (int cell : nameless(12)) {
            checks.refused(x, "hops(0, " + cell + ")", UNKNOWN, y -> y.hops(0, cell));
        }
        checks.refused(x, "hops(4, 12)", UNKNOWN, y -> y.hops(4, 12));
        stillBusy(x);
    }

    private static void tradeUnknown() {
        checks.about("Promise 14: UNKNOWN: one, other, or they are the same");
        LeapBoard x = busy();
        for (int leaper : nameless(4)) {
            checks.refused(x, "trade(" + leaper + ", 0)", UNKNOWN, y -> y.trade(leaper, 0));
            checks.refused(x, "trade(0, " + leaper + ")", UNKNOWN, y -> y.trade(0, leaper));
            checks.refused(x, "trade(" + leaper + ", " + leaper + ")", UNKNOWN, y -> y.trade(leaper, leaper));
        }
        for (int leaper = 0; leaper < 4; leaper++) {
            int same = leaper;
            checks.refused(x, "trade(" + same + ", " + same + ")", UNKNOWN, y -> y.trade(same, same));
        }
        stillBusy(x);
        // round a b e d
        LeapBoard four = Checks.on("33;.........;wa,kc,ki,wb");
        due("the first and the last", four.trade(0, 3), 4);
        due("the last and the first", four.trade(3, 0), 4);
    }

    private static void tradeOfOneAlone() {
        checks.about("Promise 14: UNKNOWN, with one LEAPER; the last of two");
        LeapBoard x = withMen("wa");
        checks.refused(x, "trade(0, 1)", UNKNOWN, y -> y.trade(0, 1));
        checks.refused(x, "trade(1, 0)", UNKNOWN, y -> y.trade(1, 0));
        checks.refused(x, "trade(0, 0)", UNKNOWN, y -> y.trade(0, 0));
        LeapBoard two = withMen("wa,wb");
        due("trade(0, 1)", two.trade(0, 1), 4);
        due("trade(1, 0)", two.trade(1, 0), 4);
        checks.refused(two, "trade(1, 2)", UNKNOWN, y -> y.trade(1, 2));
    }

    // ---- promises 15, 16, 17

    private static void peaceOutside() {
        checks.about("Promise 15: OUTSIDE: kind (0 to 4), what");
        LeapBoard x = busy();
        for (int wrong : nameless(KINDS)) {
            checks.refused(x, "peace(" + wrong + ", 0)", OUTSIDE, y -> y.peace(wrong, 0));
        }
        for (int wrong : nameless(2)) {
            checks.refused(x, "peace(0, " + wrong + ")", OUTSIDE, y -> y.peace(0, wrong));
        }
        stillBusy(x);
        LeapBoard small = withMen("ka");
        due("kind 0, what 0", small.peace(0, 0), 4);
        due("kind 0, what 1", small.peace(0, 1), 15);
        due("kind 4, what 0", small.peace(4, 0), 2);
        due("kind 4, what 1", small.peace(4, 1), 6);
    }

    private static void guardOutside() {
        checks.about("Promise 16: OUTSIDE: kind (0 to 4), what");
        LeapBoard x = busy();
        for (int wrong : nameless(KINDS)) {
            checks.refused(x, "guard(" + wrong + ", 0)", OUTSIDE, y -> y.guard(wrong, 0));
        }
        for (int wrong : nameless(2)) {
            checks.refused(x, "guard(0, " + wrong + ")", OUTSIDE, y -> y.guard(0, wrong));
        }
        stillBusy(x);
        LeapBoard small = withMen("ka");
        due("kind 0, what 0", small.guard(0, 0), 4);
        due("kind 0, what 1", small.guard(0, 1), 15);
        due("kind 4, what 0", small.guard(4, 0), 2);
        due("kind 4, what 1", small.guard(4, 1), 3);
    }

    private static void partsOutside() {
        checks.about("Promise 17: OUTSIDE: kind (0 to 4), what");
        LeapBoard x = busy();
        for (int wrong : nameless(KINDS)) {
            checks.refused(x, "parts(" + wrong + ", 0)", OUTSIDE, y -> y.parts(wrong, 0));
        }
        for (int wrong : nameless(2)) {
            checks.refused(x, "parts(0, " + wrong + ")", OUTSIDE, y -> y.parts(0, wrong));
        }
        stillBusy(x);
        LeapBoard small = withMen("ka");
        due("kind 0, what 0", small.parts(0, 0), 4);
        due("kind 0, what 1", small.parts(0, 1), 1);
        due("kind 4, what 0", small.parts(4, 0), 1);
        due("kind 4, what 1", small.parts(4, 1), 1);
    }

    private static void noBoardBehindOutside() {
        checks.about("Promises 15 to 17: OUTSIDE ..; STATE: no BOARD: the first as told");
        LeapBoard x = new LeapBoard();
        Checks.write(x, "22;....;ka");
        int[][] wrong = {{-1, 0}, {KINDS, 1}, {0, -1}, {4, 2}, {KINDS, 2}, {-1, -1}};
        for (int[] asked : wrong) {
            checks.refused(x, "peace() of what is not told", OUTSIDE, y -> y.peace(asked[0], asked[1]));
            checks.refused(x, "guard() of what is not told", OUTSIDE, y -> y.guard(asked[0], asked[1]));
            checks.refused(x, "parts() of what is not told", OUTSIDE, y -> y.parts(asked[0], asked[1]));
        }
        for (int kind = 0; kind < KINDS; kind++) {
            for (int what = 0; what <= 1; what++) {
                int of = kind;
                int asked = what;
                checks.refused(x, "peace(" + of + ", " + asked + ")", STATE, y -> y.peace(of, asked));
                checks.refused(x, "guard(" + of + ", " + asked + ")", STATE, y -> y.guard(of, asked));
                checks.refused(x, "parts(" + of + ", " + asked + ")", STATE, y -> y.parts(of, asked));
            }
        }
        due("the letters stay", x.board(), 4);
        due("a BOARD then", x.peace(0, 0), 4);
    }

    // ---- promise 18

    private static void chanceUnknown() {
        checks.about("Promise 18: UNKNOWN: leaper, cell");
        LeapBoard x = busy();
        due("the last one, where he is", x.chance(3, 3, 1), 1000000);
        due("the last CELL", x.chance(3, 11, 1), 0);
        for (int leaper : nameless(4)) {
            checks.refused(x, "chance(" + leaper + ", 0, 0)", UNKNOWN, y -> y.chance(leaper, 0, 0));
        }
        for (int cell : nameless(12)) {
            checks.refused(x, "chance(0, " + cell + ", 0)", UNKNOWN, y -> y.chance(0, cell, 0));
        }
        stillBusy(x);
    }

    private static void chanceOutside() {
        checks.about("Promise 18: OUTSIDE: leaps (0 to 6)");
        LeapBoard x = busy();
        for (int leaps : nameless(7)) {
            checks.refused(x, "chance(1, 6, " + leaps + ")", OUTSIDE, y -> y.chance(1, 6, leaps));
        }
        stillBusy(x);
        LeapBoard line = Checks.on("22;..##;wa");
        due("0", line.chance(0, 0, 0), 1000000);
        due("5", line.chance(0, 0, 5), 0);
        due("6", line.chance(0, 0, 6), 1000000);
    }

    private static void chanceUnknownAheadOfOutside() {
        checks.about("Promise 18: UNKNOWN ..; OUTSIDE: the first as told");
        LeapBoard x = busy();
        checks.refused(x, "chance(4, 0, 7)", UNKNOWN, y -> y.chance(4, 0, 7));
        checks.refused(x, "chance(0, 12, -1)", UNKNOWN, y -> y.chance(0, 12, -1));
        checks.refused(x, "chance(-1, -1, -1)", UNKNOWN, y -> y.chance(-1, -1, -1));
        checks.refused(x, "chance(3, 11, 7)", OUTSIDE, y -> y.chance(3, 11, 7));
        stillBusy(x);
    }

    // ---- promises 19, 20

    private static void seeUnknown() {
        checks.about("Promise 19: UNKNOWN: leaper");
        for (int many = 1; many <= 4; many++) {
            LeapBoard x = withMen(ONE_TO_FOUR[many - 1]);
            for (int leaper : nameless(many)) {
                checks.refused(x, "see(" + leaper + ", 1, 2) of " + many, UNKNOWN, y -> y.see(leaper, 1, 2, true));
            }
            due("the last of " + many, x.see(many - 1, 1, 2, true), 1);
        }
    }

    private static void seeOutside() {
        checks.about("Promise 19: OUTSIDE: rows, columns (0 to 3 each)");
        LeapBoard x = busy();
        for (int far : nameless(4)) {
            checks.refused(x, "see(0, " + far + ", 0)", OUTSIDE, y -> y.see(0, far, 0, true));
            checks.refused(x, "see(0, 0, " + far + ")", OUTSIDE, y -> y.see(0, 0, far, false));
            checks.refused(x, "see(0, " + far + ", " + far + ")", OUTSIDE, y -> y.see(0, far, far, true));
        }
        stillBusy(x);
        LeapBoard small = withMen("ka");
        due("0, 0", small.see(0, 0, 0, false), 1);
        due("0, 3", small.see(0, 0, 3, false), 2);
        due("3, 0", small.see(0, 3, 0, false), 3);
        due("3, 3", small.see(0, 3, 3, false), 4);
    }

    private static void seeFull() {
        checks.about("Promise 19: FULL");
        LeapBoard x = busy();
        due("the fourth", x.see(0, 3, 3, false), 4);
        due("the fifth", x.see(1, 3, 3, false), 5);
        due("the sixth", x.see(3, 3, 3, false), 6);
        checks.refused(x, "the seventh", FULL, y -> y.see(2, 3, 3, false));
        due("the IMAGE had two", x.restore(), 1);
        due("the third again", x.see(2, 3, 3, false), 3);
    }

    private static void seeRefusalsInOrder() {
        checks.about("Promise 19: UNKNOWN; OUTSIDE; FULL: the first as told");
        LeapBoard x = busy();
        checks.refused(x, "an unknown one, 4 rows", UNKNOWN, y -> y.see(4, 4, 0, true));
        checks.refused(x, "an unknown one, -1 columns", UNKNOWN, y -> y.see(-1, 0, -1, true));
        stillBusy(x);
        for (int many = 3; many <= 6; many++) {
            x.see(0, 1, 2, true);
        }
        checks.refused(x, "full, an unknown one", UNKNOWN, y -> y.see(4, 0, 0, true));
        checks.refused(x, "full, an unknown one, 4 rows", UNKNOWN, y -> y.see(4, 4, 0, true));
        checks.refused(x, "full, 4 rows", OUTSIDE, y -> y.see(3, 4, 0, true));
        checks.refused(x, "full, 4 columns", OUTSIDE, y -> y.see(3, 0, 4, true));
        checks.refused(x, "full", FULL, y -> y.see(3, 3, 3, true));
    }

    private static void forgetNothingAndAll() {
        checks.about("Promise 20: Nothing is SEEN any more: how much was");
        due("no BOARD", new LeapBoard().forget(), 0);
        LeapBoard x = withMen("ka,wb");
        due("nothing SEEN", x.forget(), 0);
        x.see(0, 1, 2, true);
        due("one", x.forget(), 1);
        for (int many = 1; many <= 6; many++) {
            x.see(1, 1, 2, true);
        }
        due("six", x.forget(), 6);
        due("nothing any more", x.forget(), 0);
        due("nothing is told", x.count(6), 0);
        due("nothing is known", x.leaper(1, 4), 31);
        due("one again", x.see(1, 0, 1, true), 1);
        due("that alone", x.leaper(1, 4), 18);
    }

    // ---- promise 21

    private static void walksOutside() {
        checks.about("Promise 21: OUTSIDE: times (1 to 60), seed (0 at least), what");
        LeapBoard x = busy();
        for (int times : new int[] {LEAST, -1, 0, 61, 62, GREATEST}) {
            checks.refused(x, "walks(" + times + ", 0, 0)", OUTSIDE, y -> y.walks(times, 0, 0));
        }
        for (int seed : new int[] {LEAST, LEAST + 1, -2, -1}) {
            checks.refused(x, "walks(1, " + seed + ", 0)", OUTSIDE, y -> y.walks(1, seed, 0));
        }
        for (int what : nameless(3)) {
            checks.refused(x, "walks(1, 0, " + what + ")", OUTSIDE, y -> y.walks(1, 0, what));
        }
        checks.refused(x, "walks(0, -1, 3)", OUTSIDE, y -> y.walks(0, -1, 3));
        stillBusy(x);
        LeapBoard small = withMen("wa");
        due("once, by 0", small.walks(1, 0, 0), 1);
        due("once, by the greatest", small.walks(1, GREATEST, 0), 1);
        due("60 times", small.walks(60, 0, 0), 60);
        due("what = 1", small.walks(60, 0, 1), 2);
        due("what = 2", withMen("ka").walks(1, 0, 2), 12345);
    }

    private static void walksNoBoard() {
        checks.about("Promise 21: OUTSIDE ..; STATE: no BOARD: the first as told");
        LeapBoard x = new LeapBoard();
        Checks.write(x, "22;");
        checks.refused(x, "walks(0, 0, 0)", OUTSIDE, y -> y.walks(0, 0, 0));
        checks.refused(x, "walks(61, 0, 0)", OUTSIDE, y -> y.walks(61, 0, 0));
        checks.refused(x, "walks(1, -1, 0)", OUTSIDE, y -> y.walks(1, -1, 0));
        checks.refused(x, "walks(1, 0, -1)", OUTSIDE, y -> y.walks(1, 0, -1));
        checks.refused(x, "walks(1, 0, 3)", OUTSIDE, y -> y.walks(1, 0, 3));
        checks.refused(x, "walks(1, 0, 0)", STATE, y -> y.walks(1, 0, 0));
        checks.refused(x, "walks(60, greatest, 2)", STATE, y -> y.walks(60, GREATEST, 2));
    }

    // ---- promises 22, 23

    private static void imageNoBoard() {
        checks.about("Promise 22: STATE: no BOARD");
        LeapBoard x = new LeapBoard();
        checks.refused(x, "image()", STATE, LeapBoard::image);
        checks.refused(x, "none was kept: restore()", STATE, LeapBoard::restore);
        Checks.write(x, "22;....;ka");
        checks.refused(x, "image(), a BOARD that is not read yet", STATE, LeapBoard::image);
        x.board();
        checks.refused(x, "still none was kept: restore()", STATE, LeapBoard::restore);
        due("image()", x.image(), 0);
    }

    private static void imageTheLatest() {
        checks.about("Promise 22: (one; the latest): how many LEAPS there were");
        LeapBoard x = withMen("wa");
        due("no LEAP", x.image(), 0);
        x.leap(0, 1);
        due("one LEAP", x.image(), 1);
        x.leap(0, 3);
        due("the latest", x.restore(), 1);
        due("the latest again, nothing done", x.restore(), 1);
        x.leap(0, 0);
        due("a new one", x.image(), 2);
        due("nothing done since", x.restore(), 2);
        due("where he stands", x.leaper(0, 1), 0);
    }

    private static void restoreNoneWasKept() {
        checks.about("Promise 23: STATE: none was kept");
        LeapBoard x = new LeapBoard();
        checks.refused(x, "no BOARD", STATE, LeapBoard::restore);
        x = withMen("wa");
        x.leap(0, 1);
        checks.refused(x, "no IMAGE", STATE, LeapBoard::restore);
        x.image();
        due("an IMAGE", x.restore(), 1);
    }

    private static void restoreBoardWasReadSince() {
        checks.about("Promise 23: STATE: or a BOARD was read since (of the same text, too)");
        LeapBoard x = withMen("wa");
        x.image();
        Checks.write(x, "22;....;wa");
        due("written, not read", x.restore(), 0);
        x.letter(' ');
        due("not read, for it is none", x.board(), STATE);
        due("the IMAGE is there still", x.restore(), 0);
        x.blank();
        Checks.write(x, "22;....;wa");
        due("read", x.board(), 4);
        checks.refused(x, "restore(), the same text", STATE, LeapBoard::restore);
        due("a new IMAGE", x.image(), 0);
        due("restore()", x.restore(), 0);
        Checks.write(x, "23;......;wa");
        due("another text", x.board(), 6);
        checks.refused(x, "restore(), another text", STATE, LeapBoard::restore);
    }

    // ---- promise 24

    private static void countOutside() {
        checks.about("Promise 24: 0 .. 8; OUTSIDE");
        LeapBoard x = busy();
        due("0", x.count(0), 3);
        due("8", x.count(8), 1);
        for (int what : nameless(9)) {
            checks.refused(x, "count(" + what + ")", OUTSIDE, y -> y.count(what));
        }
        stillBusy(x);
    }

    private static void countNoBoard() {
        checks.about("Promise 24, no BOARD");
        LeapBoard x = new LeapBoard();
        Checks.write(x, "~");
        for (int what = 0; what <= 8; what++) {
            due("count(" + what + ")", x.count(what), what == 7 ? 1 : 0);
        }
        checks.refused(x, "count(-1)", OUTSIDE, y -> y.count(-1));
        checks.refused(x, "count(9)", OUTSIDE, y -> y.count(9));
    }

    // ---- promise 25

    /** What digest() tells of these letters, as the document has it, by numbers without an end. */
    private static long told(LeapBoard x, String letters) {
        List<Integer> all = new ArrayList<>();
        for (int leaper = 0; leaper < x.count(3); leaper++) {
            for (int what = 0; what <= 7; what++) {
                all.add(x.leaper(leaper, what));
            }
            all.add(x.hops(leaper, 0));
            all.add(x.chance(leaper, 3, 3));
        }
        for (int cell = 0; cell < x.count(0) * x.count(1); cell++) {
            for (int what = 0; what <= 2; what++) {
                all.add(x.cell(cell, what));
            }
        }
        for (int kind = 0; kind < KINDS && x.count(0) > 0; kind++) {
            all.addAll(List.of(x.peace(kind, 0), x.peace(kind, 1), x.guard(kind, 0)));
            all.addAll(List.of(x.guard(kind, 1), x.parts(kind, 0), x.parts(kind, 1)));
        }
        if (x.count(3) >= 2) {
            all.add(x.trade(0, 1));
        }
        for (char letter : letters.toCharArray()) {
            all.add((int) letter);
        }
        for (int what = 0; what <= 8; what++) {
            all.add(x.count(what));
        }
        return folded(all).longValue();
    }

    private static BigInteger folded(List<Integer> all) {
        BigInteger h = BigInteger.valueOf(1301);
        for (int number : all) {
            h = h.multiply(BigInteger.valueOf(31)).add(BigInteger.valueOf(number));
        }
        return h;
    }

    private static void digestOfNothing() {
        checks.about("Promise 25, no BOARD, an empty PAGE");
        // nine times 31 times 1301, and 0
        due("digest()", new LeapBoard().digest(), 1301L * 31 * 31 * 31 * 31 * 31 * 31 * 31 * 31 * 31);
    }

    private static void digestOfLettersAlone() {
        checks.about("Promise 25: letters of THE PAGE, each by its code");
        LeapBoard one = new LeapBoard();
        one.letter('~');
        due("one letter", one.digest(), told(one, "~"));
        LeapBoard x = new LeapBoard();
        StringBuilder letters = new StringBuilder();
        for (int i = 0; i < 30; i++) {
            letters.append((char) (i % 2 == 0 ? 126 - i : 32 + i));
        }
        Checks.write(x, letters.toString());
        due("30 letters", x.digest(), told(x, letters.toString()));
        x.blank();
        due("none any more", x.digest(), new LeapBoard().digest());
    }

    private static void digestOfOneToFour() {
        checks.about("Promise 25: of each LEAPER ..; with two LEAPERS, or more, trade() of 0 and 1");
        for (String men : ONE_TO_FOUR) {
            LeapBoard x = withMen(men);
            due(men, x.digest(), told(x, ""));
            LeapBoard large = Checks.on("34;............;" + men);
            large.see(0, 1, 2, true);
            large.letter('2');
            due(men + " on twelve", large.digest(), told(large, "2"));
        }
        LeapBoard x = busy();
        due("much done", x.digest(), told(x, "33;"));
        x.restore();
        due("the IMAGE", x.digest(), told(x, "33;"));
    }

    private static void digestWraps() {
        checks.about("Promise 25: (as longs, wrapping)");
        LeapBoard x = new LeapBoard();
        // with one letter h stays below 2 to the 63, with a second one it does not
        x.letter('~');
        BigInteger last = folded(List.of(126, 0, 0, 0, 0, 0, 0, 0, 1, 0));
        due("it fits", last.bitLength() <= 63 ? 1 : 0, 1);
        due("the last that fits", x.digest(), last.longValue());
        x.letter('~');
        BigInteger first = folded(List.of(126, 126, 0, 0, 0, 0, 0, 0, 0, 2, 0));
        due("it does not fit", first.bitLength() > 63 ? 1 : 0, 1);
        due("the first that wraps", x.digest(), first.longValue());
    }

    private static void digestChangesNothing() {
        checks.about("Promise 25: digest() changes nothing");
        LeapBoard x = busy();
        long told = x.digest();
        for (int times = 0; times < 5; times++) {
            due("again", x.digest(), told);
        }
        stillBusy(x);
        due("a twin", busy().digest(), told);
    }

    // ---- refusals of all calls

    private static void allIsRefusedWithoutABoard() {
        checks.about("Refusals, no BOARD: nobody, and no CELL, is named by a number");
        LeapBoard x = new LeapBoard();
        Checks.write(x, "22;....;ka");
        for (int number : new int[] {LEAST, -1, 0, 3, GREATEST}) {
            checks.refused(x, "leaper(" + number + ")", UNKNOWN, y -> y.leaper(number, 0));
            checks.refused(x, "leaper(" + number + ", 8)", UNKNOWN, y -> y.leaper(number, 8));
            checks.refused(x, "as(" + number + ")", UNKNOWN, y -> y.as(number, 5));
            checks.refused(x, "cell(" + number + ")", UNKNOWN, y -> y.cell(number, 3));
            checks.refused(x, "leap(" + number + ")", UNKNOWN, y -> y.leap(number, number));
            checks.refused(x, "dig(" + number + ")", UNKNOWN, y -> y.dig(number));
            checks.refused(x, "fill(" + number + ")", UNKNOWN, y -> y.fill(number));
            checks.refused(x, "be(" + number + ")", UNKNOWN, y -> y.be(number, 5));
            checks.refused(x, "hops(" + number + ")", UNKNOWN, y -> y.hops(number, number));
            checks.refused(x, "trade(" + number + ")", UNKNOWN, y -> y.trade(number, 1));
            checks.refused(x, "chance(" + number + ")", UNKNOWN, y -> y.chance(number, number, 7));
            checks.refused(x, "see(" + number + ")", UNKNOWN, y -> y.see(number, 4, 4, true));
        }
        due("the letters are a BOARD still", x.board(), 4);
    }
}
