import java.io.IOException;

/** The document's part 4, MORE PLAINLY: each sentence by itself. */
public final class PlainlyEdgeTest {
    /**
     * 0 (DELAY 1, GAP 1) tells 1 and 2; 1 (GAP 3) tells 3 and 4, by 2 and 5; 2 tells 5 by 3. With two pieces of NEWS 1
     * KNOWS at 1 and 3, 2 at 2 and 4; 1 begins at 1, 4, 7, 10: LAST is 11.
     */
    private static final String SIX = "6111311111111t10t20t31t41t52";

    private static Sentences s;

    public static void main(String[] args) throws IOException {
        s = new Sentences("PlainlyEdgeTest");
        thePieceAhead();
        unlikeTellers();
        withoutOthers();
        numbersAlone();
        quickByOnePiece();
        lastOfAll();
        oneTeller();
        personZeroKnows();
        bestByAny();
        slackBeyond();
        notUndoneOrKept();
        s.end();
    }

    private static LateLetters six(int m) {
        return Due.told("T" + m + SIX);
    }

    private static void thePieceAhead() {
        s.of("A teller that KNOWS a piece of NEWS early still tells all of its TOLD the piece ahead of it first.");
        // 1 (GAP 4) KNOWS at 1, 2, 3; it begins at 1, 5, 9, 13, 17, 21.
        LateLetters x = Due.told("T3411141111t10t21t31");
        s.same("three pieces", Look.ticks(x), Look.row(0, 0, 0, 1, 2, 3, 2, 10, 18, 6, 14, 22));
        // PERSON 0 KNOWS all at TICK 0, and yet begins NEWS 1 only behind NEWS 0.
        s.same("PERSON 0", Look.ticks(Due.told("T23121111t10t20")), Look.row(0, 0, 1, 5, 3, 7));
    }

    private static void unlikeTellers() {
        s.of("THE PLAN's row counts only among those with one TELLER; CHANGED where both have unlike TELLERS changes no times.");
        for (int m = 1; m <= 3; m++) {
            LateLetters x = six(m);
            long[] ticks = Look.ticks(x);
            int last = x.about(2);
            s.is("4 (by 1) and 5 (by 2)", x.change(3), last);
            s.same("the row", Look.plan(x), Look.row(10, 20, 31, 52, 41));
            s.same("no TICK", Look.ticks(x), ticks);
            s.is("3 (by 1) and 5 (by 2)", x.change(2), last);
            s.same("no TICK then", Look.ticks(x), ticks);
            s.is("an ACT all the same", x.about(6), 2);
        }
    }

    private static void withoutOthers() {
        s.of("LAST without others is 0.");
        LateLetters x = Due.told("T3195");
        s.is("telling", x.telling(), 0);
        s.is("about", x.about(2), 0);
        s.is("if QUICK", x.about(3), 0);
        s.is("BEST", x.about(4), 0);
        for (int k = 0; k < 3; k++) {
            s.is("of NEWS " + k, x.last(k), 0);
        }
        s.is("QUICKENED", x.quicken(), 0);
        s.is("kept", x.keep(0), 0);
        s.is("again", x.again(0), 0);
        s.is("judged", x.judge(1, 500), Look.NONE);
        s.is("DRAWN", x.drawn(40), 0);
        s.is("SHARE", x.share(0, true), 0);
        s.is("a new object", new LateLetters().about(2), 0);
    }

    private static void numbersAlone() {
        s.of("NUMBERS go by DELAY and GAP of a PERSON alone.");
        LateLetters x = Due.told(Look.FOUR);
        long ofOne = x.number(1, 20);
        s.is("DELAY 1, GAP 1", ofOne, 1 << 20);
        x.set(0, 0, 9);
        x.set(2, 1, 5);
        x.set(0, 2, 3);
        x.quicken();
        x.move(1, 3);
        s.is("others are others", x.number(1, 20), ofOne);
        s.is("SOON, too", x.soon(1, 8), 3);
        s.is("of who tells nobody", x.number(2, 4), 2);
        x.set(1, 1, 2);
        s.is("its own GAP", x.number(1, 4), 8);
        x.set(1, 0, 2);
        s.is("its own DELAY", x.number(1, 4), 4);
        s.is("alone", new LateLetters().number(0, 60), 1L << 60);
    }

    private static void quickByOnePiece() {
        s.of("The QUICK PLAN goes by one piece of NEWS, whatever m is; QUICKENED changes TELLERS, too.");
        long[] due = Look.row(10, 31, 20);
        for (int m = 1; m <= 3; m++) {
            LateLetters x = Due.told("T" + m + "432114123t10t20t31");
            x.move(3, 2);
            s.is("TELLER of 3", x.person(3, 2), 2);
            // By one piece of NEWS 5, and 4 more by each other one.
            s.is("LAST if QUICK", x.about(3), 1 + 4 * m);
            s.is("LAST", x.quicken(), 1 + 4 * m);
            s.same("m is " + m, Look.plan(x), due);
            s.is("TELLER of 3 then", x.person(3, 2), 1);
        }
    }

    private static void lastOfAll() {
        s.of("SLACK, GATHERED, SHARE, DRAWN go by LAST of all m.");
        int[] last = {5, 11};
        int[] slack = {2, 6};
        int[] gathered = {3, 7};
        int[] share = {6, 2};
        for (int m = 1; m <= 2; m++) {
            LateLetters x = six(m);
            s.is("LAST", x.about(2), last[m - 1]);
            s.is("SLACK of 2", x.person(2, 5), slack[m - 1]);
            s.is("GATHERED from 2", x.person(2, 6), gathered[m - 1]);
            // All other DELAYS are 1: 5 is told 9 behind 2, by 11 and by 13.
            x.set(2, 0, 9);
            s.is("SHARE of 2", x.share(2, true), share[m - 1]);
            // From this SEED x becomes 0: all DELAYS are 1.
            x.seed(ahead());
            s.is("DRAWN", x.drawn(1), last[m - 1]);
        }
    }

    private static long ahead() {
        long odd = 6364136223846793005L;
        long inverse = odd;
        for (int i = 0; i < 6; i++) {
            inverse *= 2 - odd * inverse;
        }
        return -1442695040888963407L * inverse;
    }

    private static void oneTeller() {
        s.of("CHANGED where both have one TELLER changes TICKS.");
        LateLetters x = six(1);
        s.same("ahead of it", Look.ticks(x), Look.row(0, 1, 2, 2, 5, 3));
        // 1 is told by 2 then, 3 and 4 by 3 and 6; 2 by 1 and 5 by 2.
        s.is("1 and 2", x.change(0), 6);
        s.same("TICKS", Look.ticks(x), Look.row(0, 2, 1, 3, 6, 2));
        s.is("3 and 4", x.change(2), 6);
        s.same("TICKS then", Look.ticks(x), Look.row(0, 2, 1, 6, 3, 2));
    }

    private static void personZeroKnows() {
        s.of("PERSON 0 KNOWS in any CHANCE.");
        for (int x = 0; x <= 10; x++) {
            LateLetters one = new LateLetters();
            LateLetters all = Due.told(Look.EIGHT);
            s.is("one, " + x, one.chance(1, x, true), 1);
            s.is("one, below, " + x, one.chance(1, x, false), 1);
            s.is("eight, " + x, all.chance(1, x, true), 1);
            s.is("eight, below, " + x, all.chance(1, x, false), 1);
        }
        s.is("all lost: no other", Due.told(Look.EIGHT).chance(2, 10, true), 0);
    }

    private static void bestByAny() {
        s.of("BEST goes by any who tell whom in any row.");
        LateLetters x = six(1);
        int best = x.about(4);
        // 0 by 1, 2, 3; who is told by 1 tells by 2 and (GAP 1) by 3.
        s.is("BEST", best, 3);
        int[][] moves = {{2, 1}, {5, 4}, {3, 5}, {2, 3}, {4, 0}, {1, 4}};
        for (int[] one : moves) {
            s.holds("moved", x.move(one[0], one[1]) >= best);
            s.is("BEST then", x.about(4), best);
        }
        x.quicken();
        s.is("BEST of the QUICK one", x.about(4), best);
        x.change(0);
        s.is("BEST of a changed one", x.about(4), best);
        x.set(0, 2, 3);
        s.is("BEST of three pieces", x.about(4), best);
        x.set(0, 0, 9);
        s.holds("but by DELAYS as they are", x.about(4) > best);
    }

    private static void slackBeyond() {
        s.of("SLACK: a DELAY may be more than 9 there; of who tells nobody it is 30.");
        // 1 is told by 1, and 7 by 10 (DELAY 9 of 1); LAST is 38 by the chain of 2, 3, 4, 5, 6.
        LateLetters x = Due.told("T181191919191911111t10t20t32t43t54t65t71");
        s.is("9 and 28 more", x.person(1, 5), 28);
        s.is("of 6", x.person(6, 5), 30);
        s.is("of 7", x.person(7, 5), 30);
        s.is("DELAY all the same", x.person(1, 0), 9);
        s.is("of one with DELAY 9", Due.told("T3195").person(0, 5), 30);
        s.is("of one with DELAY 9 that is told last", Due.told("T321195t10").person(1, 5), 30);
    }

    private static void notUndoneOrKept() {
        s.of("THE TEXT, SEEN, THE SEED are not undone or kept; a telling() that is LATE changes nothing.");
        LateLetters x = Due.told(Look.FOUR);
        x.keep(0);
        x.set(0, 0, 4);
        x.write('x');
        x.see(1, 4);
        x.seed(7);
        s.is("LATE", x.telling(), Look.LATE);
        s.is("it leaves the ACTS", x.about(6), 1);
        s.is("it leaves THE TELLING", x.person(0, 0), 4);
        x.undo();
        s.is("THE TEXT is not undone", x.about(8), 21);
        s.is("SEEN is not undone", x.about(7), 1);
        s.is("what is SEEN neither", x.which(0), 1 << 4);
        s.is("THE SEED is not undone", x.seed(8), 7);
        s.is("LATE leaves the SLOTS", x.again(0), 9);
        s.is("THE TEXT is not kept", x.about(8), 21);
        s.is("SEEN is not kept", x.about(7), 1);
        s.is("what is SEEN neither", x.which(0), 1 << 4);
        s.is("THE SEED is not kept", x.seed(0), 8);
        x.wipe();
        x.unsee();
        x.again(0);
        s.is("no TEXT comes back", x.about(8), 0);
        s.is("nothing SEEN comes back", x.about(7), 0);
    }
}
