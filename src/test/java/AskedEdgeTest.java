import java.io.IOException;
import java.math.BigInteger;

/** The document's parts 2 and 3 (what is asked, SEEN, SHARES, CHANCES, DRAWN, SLOTS): each sentence with an edge, by itself. */
public final class AskedEdgeTest {
    /** A chain in which all but PERSON 6, the last one, tell: 0, 7, 1, 2, 3, 4, 5, 6. */
    private static final String SEVEN_FIRST = "T181111111111111111t70t17t21t32t43t54t65";

    private static Sentences s;

    public static void main(String[] args) throws IOException {
        s = new Sentences("AskedEdgeTest");
        numbers();
        numbersAheadOfDelay();
        numbersSummed();
        soon();
        best();
        slack();
        gathered();
        knowers();
        doings();
        doingMoved();
        doingChanged();
        doingQuickened();
        doingDelay();
        askedLast();
        askedKnows();
        askedTold();
        firstThatCanNotBe();
        doneAndAsked();
        seen();
        seenAtMost();
        which();
        share();
        chance();
        theSeed();
        drawnDelays();
        drawnAddedUp();
        slots();
        s.end();
    }

    /** Two PEOPLE, PERSON 0 with a DELAY and a GAP, PERSON 1 with others. */
    private static LateLetters two(int delay, int gap) {
        return Due.told("T12" + delay + gap + (10 - delay) + (6 - gap) + "t10");
    }

    private static void numbers() {
        s.of("how many can KNOW by TICK t (0 .. 60), if all are as PERSON p, there are as many PEOPLE as one likes, and each tells one behind the other as soon as it can");
        LateLetters x = new LateLetters();
        for (int t = 0; t <= 60; t++) {
            s.is("doubled each TICK, far more than 8: " + t, x.number(0, t), 1L << t);
        }
        for (int t : Look.outside(0, 60)) {
            s.is("TICK " + t, x.number(0, t), Look.BAD);
        }
    }

    private static void numbersAheadOfDelay() {
        s.of("by a DELAY d and a GAP g 1 for t less than d");
        for (int d = 1; d <= 9; d++) {
            for (int g = 1; g <= 5; g++) {
                LateLetters x = two(d, g);
                for (int t = 0; t < d; t++) {
                    s.is(d + ", " + g + " by " + t, x.number(0, t), 1);
                }
                s.is(d + ", " + g + " by " + d, x.number(0, d), 2);
            }
        }
    }

    private static void numbersSummed() {
        s.of("1 and the sum over k = 0, 1, .. of the NUMBER by t less d less k g (where that is 0 or more).");
        for (int d = 1; d <= 9; d++) {
            for (int g = 1; g <= 5; g++) {
                LateLetters x = two(d, g);
                long[] number = new long[61];
                for (int t = 0; t <= 60; t++) {
                    number[t] = 1;
                    for (int at = t - d; at >= 0; at -= g) {
                        number[t] += number[at];
                    }
                    s.is(d + ", " + g + " by " + t, x.number(0, t), number[t]);
                }
            }
        }
        LateLetters y = two(9, 5);
        s.is("a TICK ahead of the second LETTER", y.number(0, 13), 2);
        s.is("the second LETTER, where it is just 0", y.number(0, 14), 3);
    }

    private static void soon() {
        s.of("SOON: the least t (0 .. 60) by which the NUMBER is v (1 .. 99999) or more; NONE.");
        LateLetters x = new LateLetters();
        for (int t = 0; t <= 16; t++) {
            s.is("just so many", x.soon(0, 1 << t), t);
            s.is("one more", x.soon(0, (1 << t) + 1), t + 1);
        }
        s.is("99999", x.soon(0, 99999), 17);
        for (int v : Look.outside(1, 99999)) {
            s.is("v " + v, x.soon(0, v), Look.BAD);
        }
        LateLetters y = two(9, 5);
        int most = (int) y.number(0, 60);
        s.holds("more by 60 than by 59", most > y.number(0, 59) && most < 99999);
        s.is("by 60", y.soon(0, most), 60);
        s.is("by 59", y.soon(0, (int) y.number(0, 59)) <= 59 ? 1 : 0, 1);
        s.is("more than by 60", y.soon(0, most + 1), Look.NONE);
        s.is("99999 of 9 and 5", y.soon(0, 99999), Look.NONE);
        s.is("1 of 9 and 5", y.soon(0, 1), 0);
        s.is("2 of 9 and 5", y.soon(0, 2), 9);
    }

    private static void best() {
        s.of("BEST: the least LAST of any PLAN with one piece of NEWS, PEOPLE as they are (6 at most).");
        int[] due = {0, 1, 2, 2, 3, 3, Look.LATE, Look.LATE};
        for (int n = 1; n <= 8; n++) {
            s.is("of " + n + ", all alike", Due.told(Look.star(3, n)).about(4), due[n - 1]);
        }
        s.is("of one, slow", Due.told("T3195").about(4), 0);
        s.is("of two, slow, by three pieces", Due.told("T329595t10").about(4), 9);
        // By 9 and by 14, or the first tells the second by 18.
        s.is("of three, slow", Due.told("T13959595t10t21").about(4), 14);
        // 0 tells 2 by 1, 2 (DELAY 3) tells 1 by 4; by 1 (DELAY 4) it would be 5, by 0 alone (GAP 5) 6.
        s.is("of three, by who tells", Due.told("T13154135t10t20").about(4), 4);
        s.is("of three, by 1", Due.told("T13153541t10t20").about(4), 4);
        s.is("of three, by 0 alone", Due.told("T13119595t10t20").about(4), 2);
        // All DELAYS but PERSON 0's are 2; 2 (GAP 1), told by 1, tells by 3 and 4; by 3 (GAP 2) it would be 5.
        s.is("of four, by a GAP", Due.told("T1415252122t10t20t30").about(4), 4);
        s.is("of four, by 1's GAP", Due.told("T1415212225t10t20t30").about(4), 4);
        s.is("of four, by 3's GAP", Due.told("T1415252221t10t20t30").about(4), 4);
        // QUICK: 0 tells 1 (DELAY 2, GAP 5) by 1, 1 tells by 3 and 8, 2 (told by 3) by 6. BEST: 2 (DELAY 3, GAP 1) by 1, 4, 5.
        LateLetters slower = Due.told("T1415253191t10t20t30");
        s.is("BEST is less than QUICK", slower.about(4), 5);
        s.is("QUICK is more than BEST", slower.about(3), 6);
        // 0 tells 3 by 2; then 0 by 6, 3 (DELAY 4, GAP 1) by 6 and 7. By 4 (DELAY 2, GAP 5) it would be 4, 6 and 8.
        s.is("of five", Due.told("T152462514125t10t20t30t40").about(4), 7);
    }

    /** 0 tells 1 and 2; 1 tells 7 (by 2); 2, 3, 4, 5 and 6 are a chain, by 2, 11, 20, 29 and 29 more than DELAY of 5. */
    private static String branches(int delayOfOne, int delayOfFive) {
        return "T1811" + delayOfOne + "1919191" + delayOfFive + "11111t10t20t32t43t54t65t71";
    }

    private static void slack() {
        s.of("SLACK of a PERSON: the most by which its DELAY could be more (0 .. 30), all else as it is, without LAST being more.");
        int[] due = {28, 29, 30, 30, 30, 30, 30, 30, 30};
        for (int d = 1; d <= 9; d++) {
            LateLetters x = Due.told(branches(1, d));
            s.is("LAST", x.about(2), 29 + d);
            s.is("of 1, LAST " + (29 + d), x.person(1, 5), due[d - 1]);
            s.is("of 5", x.person(5, 5), 0);
            s.is("of 0", x.person(0, 5), 0);
            s.is("DELAY all the same", x.person(1, 0), 1);
        }
        s.is("of a DELAY of 9", Due.told(branches(9, 9)).person(1, 5), 28);
        s.is("of one", new LateLetters().person(0, 5), 30);
    }

    private static void gathered() {
        s.of("each PERSON but 0 sends its TELLER what it gathered, BEGUN at the TICK that is LAST less that at which it KNOWS the last piece of NEWS.");
        LateLetters x = Due.told(branches(1, 9));
        s.same("LAST 38", Look.all(x, 6), Look.row(Look.NONE, 37, 36, 27, 18, 9, 0, 36));
        s.same("by the second piece", Look.all(Due.told(Look.FOUR), 6), Look.row(Look.NONE, 2, 0, 1));
        s.is("of one", new LateLetters().person(0, 6), Look.NONE);
    }

    private static void knowers() {
        s.of("KNOWERS by TICK t of a piece of NEWS: who KNOWS it then, as bits.");
        LateLetters x = Due.told(branches(1, 9));
        int[][] due = {
            {0, 1}, {1, 3}, {2, 135}, {10, 135}, {11, 143}, {19, 143}, {20, 159}, {28, 159}, {29, 191}, {37, 191}, {38, 255}, {999, 255}
        };
        for (int[] one : due) {
            s.is("by " + one[0], x.knowers(0, one[0]), one[1]);
        }
        x.set(1, 0, 9);
        s.is("a DELAY told anew: 7 not by 9", x.knowers(0, 9), 7);
        s.is("but by 10", x.knowers(0, 10), 135);
        s.is("of one", new LateLetters().knowers(0, 0), 1);
    }

    private static void judged(String text, long[][] asked) {
        LateLetters x = Due.told(text);
        for (long[] one : asked) {
            s.is(one[1] + " (" + one[0] + ")", x.judge((int) one[0], one[1]), one[2]);
        }
    }

    private static void doings() {
        s.of("JUDGED: n doings (1 .. 4), told as three figures each, the first doing's the highest of row");
        judged(Look.star(1, 8), new long[][] {
            {1, 507, Look.NONE}, {2, 507507, Look.NONE}, {3, 507507507, Look.NONE}, {4, 507507507507L, Look.NONE},
            {1, 508, 0}, {2, 508507, 0}, {2, 507508, 1}, {3, 507507508, 2}, {4, 507507507508L, 3}, {4, 508507507507L, 0},
            {2, 507, 0}, {3, 507, 0}, {4, 507, 0}, {4, 507507507L, 0}, {1, 7, 0}, {1, 0, 0}, {4, 0, 0}
        });
        LateLetters x = Due.told(Look.star(1, 8));
        for (int n : Look.outside(1, 4)) {
            s.is("n " + n, x.judge(n, 507), Look.BAD);
        }
    }

    private static void doingMoved() {
        s.of("1, a PERSON, a TELLER: MOVED");
        LateLetters x = Due.told(Look.CHAIN);
        for (int p = 0; p < 10; p++) {
            for (int q = 0; q < 10; q++) {
                boolean can = p >= 2 && p <= 7 && q < p - 1;
                s.is("1, " + p + ", " + q, x.judge(1, 100 + 10 * p + q), can ? Look.NONE : 0);
            }
        }
    }

    private static void doingChanged() {
        s.of("2, 0, i: CHANGED at i");
        LateLetters x = Due.told(Look.star(1, 8));
        LateLetters y = Due.told(Look.CHAIN);
        for (int i = 0; i < 100; i++) {
            s.is("2, " + i, x.judge(1, 200 + i), i < 6 ? Look.NONE : 0);
            s.is("2, " + i + ", each the next one's TELLER", y.judge(1, 200 + i), 0);
        }
        s.is("of one", new LateLetters().judge(1, 200), 0);
    }

    private static void doingQuickened() {
        s.of("3, 0, 0: QUICKENED");
        LateLetters x = Due.told(Look.CHAIN);
        s.is("QUICK, then LAST is 3", x.judge(2, 300503), Look.NONE);
        s.is("not QUICK, LAST is 7", x.judge(2, 507300), Look.NONE);
        for (int i = 1; i < 100; i++) {
            s.is("3, and other figures than 0, 0: " + i, x.judge(1, 300 + i), 0);
        }
        s.is("of one", new LateLetters().judge(2, 300500), Look.NONE);
    }

    private static void doingDelay() {
        s.of("4, a PERSON, d: its DELAY is told d");
        LateLetters x = Due.told(Look.CHAIN);
        for (int p = 0; p < 10; p++) {
            s.is("of " + p + ", 0", x.judge(1, 400 + 10 * p), 0);
            for (int d = 1; d <= 9; d++) {
                s.is("of " + p + ", " + d, x.judge(1, 400 + 10 * p + d), p < 8 ? Look.NONE : 0);
            }
        }
        s.is("and it is so", x.judge(2, 409515), Look.NONE);
        s.is("the last one tells nobody", x.judge(2, 479507), Look.NONE);
    }

    /** PERSON 0 begins 18 LETTERS, the last at 85; PERSON 6, told by 94, tells 7 by its DELAY. */
    private static String sixTold(int delayOfSix) {
        return "T38951111111111" + delayOfSix + "111t10t20t30t40t50t60t76";
    }

    private static void askedLast() {
        s.of("5, two figures t: LAST is t");
        LateLetters x = Due.told(Look.CHAIN);
        for (int t = 0; t < 100; t++) {
            s.is("LAST is 7, not " + t, x.judge(1, 500 + t), t == 7 ? Look.NONE : 0);
        }
        judged(sixTold(5), new long[][] {{1, 599, Look.NONE}, {1, 598, 0}, {1, 500, 0}});
        LateLetters y = Due.told(sixTold(6));
        s.is("LAST", y.about(2), 100);
        for (int t = 0; t < 100; t++) {
            s.is("LAST is 100, not " + t, y.judge(1, 500 + t), 0);
        }
        s.is("of one", new LateLetters().judge(1, 500), Look.NONE);
    }

    private static void askedKnows() {
        s.of("6, a PERSON, t: it KNOWS NEWS 0 by TICK t, or ahead of it");
        LateLetters x = Due.told(Look.CHAIN);
        for (int p = 0; p < 10; p++) {
            for (int t = 0; t < 10; t++) {
                s.is(p + " by " + t, x.judge(1, 600 + 10 * p + t), p < 8 && p <= t ? Look.NONE : 0);
            }
        }
        judged("T33911111t10t21", new long[][] {{1, 619, Look.NONE}, {1, 618, 0}, {1, 629, 0}, {1, 600, Look.NONE}});
    }

    private static void askedTold() {
        s.of("7, a PERSON, v: it has v TOLD");
        LateLetters x = Due.told(Look.star(1, 8));
        for (int p = 0; p < 10; p++) {
            for (int v = 0; v < 10; v++) {
                boolean so = p == 0 ? v == 7 : p < 8 && v == 0;
                s.is(p + " has " + v, x.judge(1, 700 + 10 * p + v), so ? Look.NONE : 0);
            }
        }
    }

    private static void firstThatCanNotBe() {
        s.of("the place (from 0) of the first that can not be (or is not so), what is ahead of it being done; NONE: none.");
        judged(Look.FOUR, new long[][] {
            {1, 509, Look.NONE}, {1, 508, 0}, {2, 132509, 1}, {2, 132513, Look.NONE}, {3, 132513132L, 2}, {4, 132131132131L, Look.NONE},
            {4, 132131131132L, 2}, {4, 200200200200L, Look.NONE}, {4, 509508113999L, 1}, {4, 409300419999L, 3}, {2, 113509, 0}
        });
        LateLetters x = Due.told(Look.FOUR);
        s.is("judged twice", 10 * x.judge(1, 132) + x.judge(1, 132), 11 * Look.NONE);
    }

    private static void doneAndAsked() {
        s.of("1 .. 4 are done, 5 .. 7 asked.");
        LateLetters x = Due.told(Look.star(1, 8));
        for (int kind : new int[] {0, 8, 9}) {
            for (int i = 0; i < 100; i++) {
                s.is("kind " + kind + ", " + i, x.judge(1, 100 * kind + i), 0);
            }
        }
        judged(Look.star(1, 8), new long[][] {
            {2, 112721, Look.NONE}, {2, 300503, Look.NONE}, {2, 409515, Look.NONE}, {2, 200621, Look.NONE}, {2, 200611, 1},
            {2, 200612, Look.NONE}, {2, 403612, 1}, {2, 403613, Look.NONE}, {3, 403613403L, Look.NONE}, {3, 404402612L, Look.NONE},
            {4, 507507507507L, Look.NONE}, {4, 611611611611L, Look.NONE}, {4, 707707707707L, Look.NONE}
        });
    }

    private static void seen() {
        s.of("DELAY of some PERSON being an unknown one (1 .. 9), a PERSON came to KNOW NEWS 0 at TICK t (0 .. 99), all else as it is when that is asked (not when it was told)");
        LateLetters x = Due.told("T33111111t10t21");
        s.is("TICK 0", x.see(2, 0), 1);
        s.is("never at TICK 0", x.which(0), 0);
        x.unsee();
        s.is("TICK 99", x.see(2, 99), 1);
        s.is("never at TICK 99", x.which(0), 0);
        for (int t : Look.outside(0, 99)) {
            s.is("TICK " + t, x.see(2, t), Look.BAD);
        }
        x.unsee();
        x.see(2, 10);
        s.is("DELAY 9 of 0", x.which(0), 1 << 9);
        s.is("DELAY 9 of 1", x.which(1), 1 << 9);
        s.is("NEWS 0, not 2", x.knows(2, 0), 2);
        x.set(1, 0, 9);
        s.is("as it is now: DELAY 1 of 0", x.which(0), 1 << 1);
        x.move(2, 0);
        s.is("by 0 now, its second LETTER", x.which(0), 1 << 9);
        s.is("1 tells nobody now: by 2 it is not so", x.which(1), 0);
        x.undo();
        x.undo();
        s.is("as it was", x.which(0), 1 << 9);
    }

    private static void seenAtMost() {
        s.of("never more than 6, none at first (of PEOPLE that there are not any more nothing is looked at).");
        LateLetters x = Due.told(Look.star(1, 3));
        s.is("none at first", x.about(7), 0);
        s.is("so all is so", x.which(0), 1022);
        for (int i = 1; i <= 6; i++) {
            s.is("the next one", x.see(2, 90), i);
        }
        for (int i = 0; i < 3; i++) {
            s.is("the 7th", x.see(0, 0), Look.FULL);
            s.is("so many all the same", x.about(7), 6);
        }
        s.is("not so", x.which(0), 0);
        Look.tell(x, "T121111t10");
        s.is("2 is not there any more", x.which(0), 1022);
        s.is("nor for 1", x.which(1), 1022);
        s.is("but it is SEEN", x.about(7), 6);
        s.is("FULL all the same", x.see(0, 0), Look.FULL);
        Look.tell(x, "T1111");
        s.is("nor is 1", x.which(0), 1022);
        x.unsee();
        x.see(0, 0);
        s.is("PERSON 0 is always there", x.which(0), 1022);
        x.see(0, 1);
        s.is("and looked at", x.which(0), 0);
    }

    private static void which() {
        s.of("WHICH of a PERSON: its DELAYS (bits 1 .. 9) by which all that is SEEN is so.");
        LateLetters x = Due.told("T13111111t10t20");
        s.is("nothing SEEN", x.which(0), 1022);
        for (int t = 0; t <= 11; t++) {
            x.unsee();
            x.see(1, t);
            s.is("at " + t, x.which(0), t >= 1 && t <= 9 ? 1 << t : 0);
            s.is("of who tells nobody, at " + t, x.which(2), t == 1 ? 1022 : 0);
        }
        x.unsee();
        x.see(1, 4);
        x.see(2, 5);
        s.is("both so", x.which(0), 1 << 4);
        x.see(2, 6);
        s.is("all must be so", x.which(0), 0);
        LateLetters y = new LateLetters();
        s.is("of one", y.which(0), 1022);
    }

    private static void shared(LateLetters x, int p, int above, int below) {
        s.is("above, of " + p, x.share(p, true), above);
        s.is("below, of " + p, x.share(p, false), below);
    }

    private static void share() {
        s.of("if DELAYS come one by one, in each order as likely (1 as long as one's has not come): by how much more LAST is in the mean when its own has come: a FRACTION.");
        // 4, 5, 6 are told by 5 each, by DELAYS of 4, 3, 2; by DELAYS of 1 LAST is 4: the first that comes makes it 5.
        LateLetters thirds = Due.told("T1711413121111111t10t20t30t41t52t63");
        int[][] due = {{0, 1}, {1, 3}, {1, 3}, {1, 3}, {0, 1}, {0, 1}, {0, 1}};
        for (int p = 0; p < 7; p++) {
            shared(thirds, p, due[p][0], due[p][1]);
        }
        LateLetters nines = Due.told("T189191919191919191t10t21t32t43t54t65t76");
        for (int p = 0; p < 8; p++) {
            shared(nines, p, p == 7 ? 0 : 8, 1);
        }
        LateLetters ones = Due.told(Look.CHAIN);
        for (int p = 0; p < 8; p++) {
            shared(ones, p, 0, 1);
        }
        shared(Due.told("T3195"), 0, 0, 1);
        // LAST is 3 ahead of all, 5 when DELAY of 1 has come, 4 when only that of 2 has.
        LateLetters halves = Due.told("T151141211111t10t20t31t42");
        shared(halves, 1, 3, 2);
        shared(halves, 2, 1, 2);
    }

    private static void chanced(String text, int[][] due) {
        LateLetters x = Due.told(text);
        for (int[] one : due) {
            s.is("above, " + one[0] + ", " + one[1], x.chance(one[0], one[1], true), one[2]);
            s.is("below, " + one[0] + ", " + one[1], x.chance(one[0], one[1], false), one[3]);
        }
    }

    private static void chance() {
        s.of("of each PERSON but 0 the LETTERS to it are lost by x tenths (0 .. 10), all of them or none, by itself (who is not told tells nobody): that v (0 .. 8) or more KNOW: a FRACTION.");
        for (int m = 1; m <= 3; m++) {
            chanced(Look.star(m, 8), new int[][] {
                {0, 0, 1, 1}, {8, 0, 1, 1}, {8, 10, 0, 1}, {2, 10, 0, 1}, {1, 10, 1, 1}, {0, 10, 1, 1}, {8, 1, 4782969, 10000000},
                {8, 9, 1, 10000000}, {8, 5, 1, 128}, {2, 5, 127, 128}, {7, 5, 1, 16}, {1, 9, 1, 1}, {2, 9, 5217031, 10000000}
            });
        }
        chanced(Look.star(3, 7), new int[][] {{8, 0, 0, 1}, {7, 0, 1, 1}, {7, 5, 1, 64}});
        chanced(Look.CHAIN, new int[][] {{8, 5, 1, 128}, {2, 5, 1, 2}, {3, 5, 1, 4}, {2, 2, 4, 5}, {3, 2, 16, 25}, {8, 1, 4782969, 10000000}});
        chanced("T1195", new int[][] {{0, 0, 1, 1}, {1, 0, 1, 1}, {1, 10, 1, 1}, {2, 0, 0, 1}, {8, 0, 0, 1}, {0, 10, 1, 1}});
        chanced("T13111111t10t20", new int[][] {{2, 3, 91, 100}, {3, 3, 49, 100}, {1, 3, 1, 1}, {4, 3, 0, 1}});
    }

    private static final BigInteger TIMES = BigInteger.valueOf(6364136223846793005L);
    private static final BigInteger MORE = BigInteger.valueOf(1442695040888963407L);
    private static final BigInteger ROUND = BigInteger.ONE.shiftLeft(64);

    private static long next(long x) {
        return BigInteger.valueOf(x).multiply(TIMES).add(MORE).longValue();
    }

    /** THE SEED that becomes x. */
    private static long ahead(long x) {
        return BigInteger.valueOf(x).subtract(MORE).multiply(TIMES.modInverse(ROUND)).longValue();
    }

    private static void theSeed() {
        s.of("m times (1 .. 40) x (THE SEED, a long; 0 at first) becomes x * 6364136223846793005L + 1442695040888963407L (64 bits, wrapping)");
        LateLetters x = new LateLetters();
        x.drawn(1);
        s.is("from 0", x.seed(0), 1442695040888963407L);
        long[] from = {1, -1, 2, Long.MAX_VALUE, Long.MIN_VALUE, 1L << 33, ahead(0), ahead(-1), ahead(Long.MIN_VALUE)};
        for (long one : from) {
            x.seed(one);
            x.drawn(1);
            s.is("from " + one, x.seed(0), next(one));
        }
        for (int m = 1; m <= 40; m++) {
            x.seed(m);
            long due = m;
            for (int i = 0; i < m; i++) {
                due = next(due);
            }
            x.drawn(m);
            s.is(m + " times", x.seed(0), due);
        }
        for (int m : Look.outside(1, 40)) {
            s.is("m " + m, x.drawn(m), Look.BAD);
            s.is("THE SEED then", x.seed(0), 0);
        }
    }

    private static void drawnDelays() {
        s.of("v is (int) (x >>> 33): DELAY of PERSON p is 1 more than what is left by 9 of v by (9 to the p, cut), that time");
        LateLetters x = Due.told(SEVEN_FIRST);
        long nines = 1;
        for (int p = 0; p < 8; p++) {
            for (int figure = 0; figure <= 8; figure++) {
                x.seed(ahead(nines * figure << 33));
                s.is("DELAY of " + p + ", 1 more than " + figure, x.drawn(1), p == 6 ? 7 : 7 + figure);
            }
            nines *= 9;
        }
        x.seed(ahead(nines << 33));
        s.is("9 to the 8: none", x.drawn(1), 7);
        x.seed(ahead((1L << 33) - 1));
        s.is("33 bits are cut", x.drawn(1), 7);
        // 2147483647 is, from the lowest on, 1, 7, 6, 3, 7, 7, 8, 7, 4, 5 by nines.
        x.seed(ahead(-1));
        s.is("no sign: DELAYS 2, 8, 8, 7, 4, 8, 8", x.drawn(1), 45);
        LateLetters y = Due.told(Look.CHAIN);
        y.seed(ahead(-1));
        s.is("no sign: DELAYS 2, 8, 7, 4, 8, 8, 9", y.drawn(1), 46);
    }

    private static void drawnAddedUp() {
        s.of("LAST, each time, added up. (Nothing changes but THE SEED.)");
        LateLetters x = Due.told("T125511t10");
        int due = 0;
        long seed = 0;
        for (int i = 0; i < 40; i++) {
            seed = next(seed);
            due += 1 + (int) ((seed >>> 33) % 9);
        }
        s.is("40 times", x.drawn(40), due);
        s.is("THE SEED", x.seed(0), seed);
        int parts = 0;
        for (int i = 0; i < 40; i++) {
            parts += x.drawn(1);
        }
        s.is("one by one", parts, due);
        s.same("DELAYS", Look.all(x, 0), Look.row(5, 1));
        s.same("GAPS", Look.all(x, 1), Look.row(5, 1));
        s.is("no ACTS", x.about(6), 0);
        s.is("of one", new LateLetters().drawn(40), 0);
    }

    private static void slots() {
        s.of("SLOTS 0 .. 1 keep DELAYS, GAPS, m, THE PLAN (no ACTS when one goes on; n is THE TELLING's).");
        LateLetters x = Due.told(Look.FOUR);
        x.keep(0);
        x.set(0, 0, 9);
        x.set(3, 1, 5);
        x.set(0, 2, 3);
        x.move(3, 0);
        x.keep(1);
        s.is("ACTS stay when they are kept", x.about(6), 4);
        x.quicken();
        s.is("SLOT 0", x.again(0), 9);
        s.same("DELAYS", Look.all(x, 0), Look.row(3, 1, 4, 2));
        s.same("GAPS", Look.all(x, 1), Look.row(2, 1, 1, 3));
        s.is("m", x.about(1), 2);
        s.same("THE PLAN", Look.plan(x), Look.row(10, 20, 31));
        s.is("no ACTS", x.about(6), 0);
        s.is("none to undo", x.undo(), Look.LATE);
        // PERSON 0 (DELAY 9, GAP 2) begins 9 LETTERS, the last at 16.
        s.is("SLOT 1", x.again(1), 25);
        s.same("DELAYS of SLOT 1", Look.all(x, 0), Look.row(9, 1, 4, 2));
        s.same("GAPS of SLOT 1", Look.all(x, 1), Look.row(2, 1, 1, 5));
        s.is("m of SLOT 1", x.about(1), 3);
        s.same("THE PLAN of SLOT 1", Look.plan(x), Look.row(10, 20, 30));
        s.is("n", x.about(0), 4);
        for (int slot : Look.outside(0, 1)) {
            s.is("kept in " + slot, x.keep(slot), Look.UNKNOWN);
            s.is("gone on from " + slot, x.again(slot), Look.UNKNOWN);
        }
    }
}
