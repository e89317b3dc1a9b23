/** Each promise of the document by itself: ordinary inputs, its edges, wrong inputs. Reckoned by hand. */
public final class PromiseTest {
    private static final int UNKNOWN = -1, BAD = -2, LATE = -3, FULL = -4, NONE = -9;
    private static final int LEAST = Integer.MIN_VALUE, MOST = Integer.MAX_VALUE;

    /** 2 pieces of NEWS, 4 PEOPLE: 0 tells 1 and 2, 1 tells 3. 0 begins at 0, 2, 4, 6; 1 at 3, 7. LAST is 9. */
    private static final String FOUR = "T2432114123t10t20t31";
    /** 0 tells 1 tells 2; DELAYS 4, 3, 2. */
    private static final String CHAIN = "T13413121t10t21";
    /** 0 tells 1 and 2, 1 tells 3, 2 tells 4; DELAYS 1, 4, 2, 1, 1. */
    private static final String FORK = "T151141211111t10t20t31t42";
    /** All of 8 by PERSON 0. */
    private static final String STAR = "T181111111111111111t10t20t30t40t50t60t70";

    /** 1 has a lesser DELAY than the others, but so great a GAP that it is a worse teller. */
    private static final String GAPS_COUNT = "T16151521212121t10t20t30t40t50";

    private static final Due DUE = new Due("PromiseTest");

    public static void main(String[] args) {
        aNewObject();
        write();
        wipe();
        fault();
        telling();
        about();
        best();
        person();
        plan();
        knows();
        last();
        move();
        change();
        quicken();
        set();
        undo();
        number();
        soon();
        knowers();
        judge();
        judgeRefuses();
        see();
        unsee();
        which();
        share();
        chance();
        seed();
        drawn();
        keep();
        again();
        DUE.end();
    }

    private static void due(String what, long got, long want) {
        DUE.is(what, got, want);
    }

    /** THE PLAN as a number: for each place the PERSON and its TELLER. */
    private static long row(LateLetters x) {
        long row = 0;
        for (int i = 0; i < x.about(0) - 1; i++) {
            row = 100 * row + 10 * x.plan(i) + x.person(x.plan(i), 2);
        }
        return row;
    }

    private static void aNewObject() {
        LateLetters x = new LateLetters();
        due("1: PEOPLE", x.about(0), 1);
        due("1: m", x.about(1), 1);
        due("1: LAST", x.about(2), 0);
        due("1: ACTS", x.about(6), 0);
        due("1: SEEN", x.about(7), 0);
        due("1: letters", x.about(8), 0);
        due("1: DELAY", x.person(0, 0), 1);
        due("1: GAP", x.person(0, 1), 1);
        due("1: THE SEED", x.seed(0), 0);
        due("1: SLOT 0", x.again(0), LATE);
        due("1: SLOT 1", x.again(1), LATE);
    }

    private static void write() {
        LateLetters x = new LateLetters();
        due("2: 0", x.write(0), 1);
        due("2: 255", x.write(255), 2);
        due("2: 256", x.write(256), BAD);
        due("2: -1", x.write(-1), BAD);
        due("2: least", x.write(LEAST), BAD);
        due("2: most", x.write(MOST), BAD);
        for (int i = 3; i <= 60; i++) {
            due("2: the next", x.write('T'), i);
        }
        due("2: the 61st", x.write('T'), FULL);
        due("2: BAD is named ahead of FULL", x.write(256), BAD);
        due("2: refused, so none came", x.about(8), 60);
    }

    private static void wipe() {
        LateLetters x = new LateLetters();
        due("3: none", x.wipe(), 0);
        Due.write(x, "T11");
        due("3: three", x.wipe(), 3);
        due("3: then none", x.wipe(), 0);
        due("3: write begins anew", x.write('T'), 1);
    }

    private static int faultOf(String text) {
        LateLetters x = new LateLetters();
        Due.write(x, text);
        return x.fault();
    }

    private static void fault() {
        String[] whole = {"T1111", "T3195", FOUR, CHAIN, FORK, STAR};
        for (String text : whole) {
            due("4: " + text, faultOf(text), NONE);
            for (int length = 0; length < text.length(); length++) {
                due("4: " + text.substring(0, length), faultOf(text.substring(0, length)), length);
            }
            due("4: a letter too many", faultOf(text + "t"), text.length());
            due("4: a blank too many", faultOf(text + " x"), text.length());
        }
        due("4: no T", faultOf("t1111"), 0);
        due("4: m 0", faultOf("T0111"), 1);
        due("4: m 4", faultOf("T4111"), 1);
        due("4: n 0", faultOf("T1011"), 2);
        due("4: n 9", faultOf("T1911"), 2);
        due("4: DELAY 0", faultOf("T1101"), 3);
        due("4: DELAY no figure", faultOf("T11:1"), 3);
        due("4: GAP 0", faultOf("T1110"), 4);
        due("4: GAP 6", faultOf("T1196"), 4);
        due("4: no t", faultOf("T121111T10"), 7);
        due("4: PERSON 0", faultOf("T121111t00"), 8);
        due("4: PERSON n", faultOf("T121111t20"), 8);
        due("4: itself as TELLER", faultOf("T121111t11"), 9);
        due("4: a TELLER that stands later", faultOf("T13111111t12t20"), 11);
        due("4: a TELLER that there is not", faultOf("T13111111t13t20"), 11);
        due("4: a PERSON that stands already", faultOf("T13111111t10t10"), 13);
        due("4: a t where all stand", faultOf("T121111t10t"), 10);
        due("4: the first of two", faultOf("T1911tt"), 2);
        StringBuilder sixty = new StringBuilder(STAR);
        while (sixty.length() < 60) {
            sixty.append('0');
        }
        due("4: a full TEXT", faultOf(sixty.toString()), 40);
        LateLetters x = new LateLetters();
        Due.write(x, "xx0");
        x.wipe();
        due("4: wiped letters do not count", x.fault(), 0);
        due("4: nor for a TELLING", x.telling(), LATE);
    }

    private static void telling() {
        LateLetters x = Due.told(FOUR);
        x.wipe();
        Due.write(x, FOUR);
        due("5: LAST", x.telling(), 9);
        x.set(0, 0, 5);
        x.keep(0);
        x.keep(1);
        x.see(3, 4);
        x.seed(77);
        due("5: THE TEXT stays", x.about(8), 20);
        due("5: again", x.telling(), 9);
        due("5: no ACTS", x.about(6), 0);
        due("5: nothing to undo", x.undo(), LATE);
        due("5: what was kept is gone", x.again(0), LATE);
        due("5: in SLOT 1, too", x.again(1), LATE);
        due("5: THE TEXT stays still", x.about(8), 20);
        due("5: SEEN stays", x.about(7), 1);
        x.set(1, 1, 4);
        x.keep(1);
        x.write('t');
        due("5: a FAULT", x.telling(), LATE);
        due("5: LATE leaves the ACTS", x.about(6), 1);
        due("5: LATE leaves THE TELLING", x.person(1, 1), 4);
        due("5: LATE leaves the SLOTS", x.again(1), 9);
        due("5: THE SEED stays", x.seed(0), 77);
        x.wipe();
        Due.write(x, "T1195");
        due("5: fewer PEOPLE", x.telling(), 0);
        due("5: one", x.about(0), 1);
        due("5: DELAY", x.person(0, 0), 9);
        due("5: GAP", x.person(0, 1), 5);
        due("5: TELLER of PERSON 0", x.person(0, 2), NONE);
        due("5: no place", x.plan(0), UNKNOWN);
        due("5: an empty TEXT", x.wipe() + 10 * x.telling(), 5 + 10 * LATE);
    }

    private static void about() {
        LateLetters x = Due.told(FOUR);
        int[] want = {4, 2, 9, 9, 5, 6, 0, 0, 20};
        for (int what = 0; what < want.length; what++) {
            due("6: " + what, x.about(what), want[what]);
        }
        due("6: 9", x.about(9), BAD);
        due("6: -1", x.about(-1), BAD);
        due("6: least", x.about(LEAST), BAD);
        due("6: most", x.about(MOST), BAD);
        x.move(3, 2);
        due("6: LAST if QUICK", x.about(3), 9);
        due("6: LAST all the same", x.about(2), 13);
        due("6: THE PLAN all the same", row(x), 102032);
        due("6: ACTS", x.about(6), 1);
        x.see(0, 0);
        due("6: SEEN", x.about(7), 1);
        due("6: BEST of 7", Due.told("T1711111111111111t10t20t30t40t50t60").about(4), LATE);
        due("6: BEST of 8", Due.told(STAR).about(4), LATE);
        due("6: QUICK of 8, all alike", Due.told(STAR).about(3), 3);
        due("6: LETTERS of 8", Due.told(STAR).about(5), 7);
    }

    private static void best() {
        due("6: BEST of one", new LateLetters().about(4), 0);
        due("6: BEST of two", Due.told("T329515t10").about(4), 9);
        due("6: BEST of six, all alike", Due.told("T16111111111111t10t20t30t40t50").about(4), 3);
        LateLetters x = Due.told(GAPS_COUNT);
        Model y = new Model();
        for (char c : GAPS_COUNT.toCharArray()) {
            y.write(c);
        }
        y.telling();
        due("6: BEST against all PLANS", x.about(4), y.about(4));
        DUE.holds("6: BEST is less than QUICK somewhere", bestIsLessSomewhere());
    }

    /** BEST against all PLANS, for TELLINGS in which the GAPS count. */
    private static boolean bestIsLessSomewhere() {
        boolean less = false;
        java.util.Random random = new java.util.Random(5);
        for (int i = 0; i < 60; i++) {
            StringBuilder b = new StringBuilder("T1").append(i % 6 == 0 ? 6 : 5);
            int n = b.charAt(2) - '0';
            for (int p = 0; p < n; p++) {
                b.append(1 + random.nextInt(p == 0 ? 3 : 6)).append(1 + random.nextInt(5));
            }
            for (int p = 1; p < n; p++) {
                b.append('t').append(p).append('0');
            }
            LateLetters x = Due.told(b.toString());
            due("6: BEST of " + b, x.about(4), Model.best(Model.read(b.toString())));
            less |= x.about(4) < x.about(3);
        }
        return less;
    }

    private static void person() {
        LateLetters x = Due.told(FOUR);
        int[][] want = {
            {3, 2, NONE, NONE, 2, 0, NONE}, {1, 1, 0, 0, 1, 1, 2}, {4, 1, 0, 1, 0, 30, 0}, {2, 3, 1, 2, 0, 30, 1}
        };
        for (int p = 0; p < 4; p++) {
            for (int what = 0; what < 7; what++) {
                due("7: " + p + ", " + what, x.person(p, what), want[p][what]);
            }
            due("7: 7", x.person(p, 7), BAD);
            due("7: -1", x.person(p, -1), BAD);
        }
        due("7: PERSON 4", x.person(4, 0), UNKNOWN);
        due("7: PERSON -1", x.person(-1, 0), UNKNOWN);
        due("7: least", x.person(LEAST, LEAST), UNKNOWN);
        due("7: most", x.person(MOST, 7), UNKNOWN);
        due("7: nothing changed", x.about(2), 9);
        // 0 tells 1 at 1, 2 at 1 + GAP 5; 1 tells 3: 1 may be 5 later than 1.
        due("7: SLACK of 4", Due.told("T1415111111t10t20t31").person(1, 5), 4);
        due("7: SLACK of a DELAY of 9", Due.told("T16959511111111t10t20t30t40t51").person(1, 5), 6);
    }

    private static void plan() {
        LateLetters x = Due.told("T13111111t20t12");
        due("8: 0", x.plan(0), 2);
        due("8: 1", x.plan(1), 1);
        due("8: 2", x.plan(2), UNKNOWN);
        due("8: -1", x.plan(-1), UNKNOWN);
        due("8: most", x.plan(MOST), UNKNOWN);
        due("8: least", x.plan(LEAST), UNKNOWN);
        due("8: of one", new LateLetters().plan(0), UNKNOWN);
    }

    private static void knows() {
        LateLetters x = Due.told(FOUR);
        int[][] want = {{0, 0}, {3, 7}, {5, 9}, {4, 8}};
        for (int p = 0; p < 4; p++) {
            due("9: " + p + ", 0", x.knows(p, 0), want[p][0]);
            due("9: " + p + ", 1", x.knows(p, 1), want[p][1]);
        }
        due("9: PERSON 4", x.knows(4, 0), UNKNOWN);
        due("9: PERSON -1", x.knows(-1, 0), UNKNOWN);
        due("9: NEWS 2", x.knows(0, 2), UNKNOWN);
        due("9: NEWS -1", x.knows(0, -1), UNKNOWN);
        due("9: most", x.knows(1, MOST), UNKNOWN);
        x.set(1, 0, 5);
        due("9: a DELAY told anew", x.knows(3, 1), 12);
        // 1 KNOWS NEWS 1 at 2 but begins it only at 9, when GAP 4 has twice gone by since 1.
        LateLetters y = Due.told("T2411141111t10t21t31");
        due("9: known early", y.knows(1, 1), 2);
        due("9: the piece ahead of it first", y.knows(3, 0), 6);
        due("9: told behind it", y.knows(2, 1), 10);
        due("9: and the next", y.knows(3, 1), 14);
    }

    private static void last() {
        LateLetters x = Due.told(FOUR);
        due("10: NEWS 0", x.last(0), 5);
        due("10: NEWS 1", x.last(1), 9);
        due("10: NEWS 2", x.last(2), UNKNOWN);
        due("10: NEWS -1", x.last(-1), UNKNOWN);
        due("10: most", x.last(MOST), UNKNOWN);
        due("10: of one", new LateLetters().last(0), 0);
        x.set(1, 0, 5);
        due("10: a DELAY told anew", x.last(1), 12);
        x.wipe();
        Due.write(x, "T3195");
        x.telling();
        due("10: others' TICKS are gone", x.last(1), 0);
        due("10: of three", x.last(2), 0);
    }

    private static void move() {
        LateLetters x = Due.told(FOUR);
        due("11: PERSON 0", x.move(0, 1), UNKNOWN);
        due("11: PERSON 4", x.move(4, 1), UNKNOWN);
        due("11: PERSON -1", x.move(-1, 1), UNKNOWN);
        due("11: TELLER 4", x.move(1, 4), UNKNOWN);
        due("11: TELLER -1", x.move(1, -1), UNKNOWN);
        due("11: most", x.move(1, MOST), UNKNOWN);
        due("11: its TELLER", x.move(3, 1), LATE);
        due("11: PERSON 0 as its TELLER", x.move(1, 0), LATE);
        due("11: itself", x.move(2, 2), LATE);
        due("11: one that it tells", x.move(1, 3), LATE);
        due("11: refused, so no ACT", x.about(6), 0);
        due("11: 3 by 2", x.move(3, 2), 13);
        due("11: THE PLAN", row(x), 102032);
        due("11: one that it tells now", x.move(2, 3), LATE);
        due("11: 1 by 2", x.move(1, 2), 10);
        due("11: behind all others", row(x), 203212);
        due("11: one that it tells by two", Due.told(CHAIN.replace("T13413121", "T1441312111") + "t32").move(1, 3), LATE);
        due("11: ACTS", x.about(6), 2);
        // 2 goes with 4, which it tells, and they keep their row; 1 and 3 stay ahead.
        LateLetters y = Due.told("T151111111111t20t10t42t31");
        y.move(2, 3);
        due("11: all that it tells goes along", row(y), 10312342);
        LateLetters z = Due.told("T1411111111t30t10t21");
        z.move(1, 3);
        due("11: those at the end keep their row", row(z), 301321);
    }

    private static void change() {
        LateLetters x = Due.told(FOUR);
        // 0 begins 2, then 1: 2 at 3 and 7, 1 at 5 and 9, 3 at 6 and 10.
        due("12: at 0", x.change(0), 10);
        due("12: THE PLAN", row(x), 201031);
        due("12: the next one's TELLER", x.change(1), LATE);
        due("12: no next one", x.change(2), UNKNOWN);
        due("12: no such place", x.change(3), UNKNOWN);
        due("12: -1", x.change(-1), UNKNOWN);
        due("12: most", x.change(MOST), UNKNOWN);
        due("12: least", x.change(LEAST), UNKNOWN);
        due("12: ACTS", x.about(6), 1);
        due("12: back", x.change(0), 9);
        due("12: unlike TELLERS change no times", x.change(1), 9);
        due("12: THE PLAN then", row(x), 103120);
        due("12: of one", new LateLetters().change(0), UNKNOWN);
        due("12: of two", Due.told("T121111t10").change(0), UNKNOWN);
    }

    private static void quicken() {
        LateLetters x = Due.told(FOUR);
        x.move(3, 2);
        due("13: LAST", x.quicken(), 9);
        due("13: THE PLAN", row(x), 103120);
        due("13: ACTS", x.about(6), 2);
        due("13: changes nothing", x.quicken(), 9);
        due("13: but is an ACT", x.about(6), 3);
        // All alike: the least numbers first, both as tellers and as told ones.
        LateLetters y = Due.told(STAR);
        due("13: LAST of 8", y.quicken(), 3);
        due("13: the least numbers", row(y), 10203140516273L);
        // DELAYS of 1, 2, 3 are like: the least GAP (3), then the least number (1).
        LateLetters z = Due.told("T1411222221t10t20t30");
        z.quicken();
        due("13: the least GAP", z.plan(0), 3);
        due("13: then the least number", z.plan(1), 1);
        // By one piece of NEWS, whatever m is.
        LateLetters w = Due.told("T1432114123t10t20t31");
        w.quicken();
        due("13: as by one piece", row(w), 103120);
        due("13: of one", new LateLetters().quicken(), 0);
    }

    private static void set() {
        LateLetters x = Due.told(FOUR);
        due("14: DELAY", x.set(1, 0, 9), 1);
        due("14: it is so", x.person(1, 0), 9);
        due("14: LAST", x.about(2), 16);
        due("14: GAP", x.set(0, 1, 5), 2);
        due("14: it is so", x.person(0, 1), 5);
        due("14: m", x.set(0, 2, 1), 2);
        due("14: it is so", x.about(1), 1);
        due("14: LAST", x.about(2), 12);
        due("14: as it was, an ACT too", x.set(0, 2, 1), 1);
        due("14: ACTS", x.about(6), 4);
        due("14: PERSON 4", x.set(4, 0, 1), UNKNOWN);
        due("14: PERSON -1", x.set(-1, 0, 1), UNKNOWN);
        due("14: UNKNOWN is named first", x.set(4, 3, 99), UNKNOWN);
        due("14: m of another PERSON", x.set(1, 2, 1), BAD);
        due("14: what 3", x.set(0, 3, 1), BAD);
        due("14: what -1", x.set(0, -1, 1), BAD);
        int[] most = {9, 5, 3};
        for (int what = 0; what < 3; what++) {
            due("14: 0", x.set(0, what, 0), BAD);
            due("14: too much", x.set(0, what, most[what] + 1), BAD);
            due("14: least", x.set(0, what, LEAST), BAD);
            due("14: most", x.set(0, what, MOST), BAD);
        }
        due("14: refused, so no ACT", x.about(6), 4);
        x.set(0, 2, 3);
        due("14: the greatest m", x.set(0, 2, 2), 3);
        x.set(0, 0, 9);
        due("14: the greatest DELAY", x.set(0, 0, 1), 9);
        due("14: the greatest GAP", x.set(0, 1, 1), 5);
    }

    private static void undo() {
        LateLetters x = Due.told(FOUR);
        due("15: none", x.undo(), LATE);
        x.move(3, 2);
        x.change(0);
        x.quicken();
        x.set(2, 0, 7);
        x.set(2, 1, 5);
        x.set(0, 2, 3);
        due("15: m", x.undo() * 10 + x.about(1), 52);
        due("15: GAP", x.undo() * 10 + x.person(2, 1), 41);
        due("15: DELAY", x.undo() * 10 + x.person(2, 0), 34);
        due("15: QUICKENED", x.undo(), 2);
        due("15: THE PLAN ahead of it", row(x), 201032);
        due("15: CHANGED", x.undo(), 1);
        due("15: THE PLAN ahead of it", row(x), 102032);
        due("15: MOVED", x.undo(), 0);
        due("15: THE PLAN ahead of it", row(x), 102031);
        due("15: none left", x.undo(), LATE);
        LateLetters y = Due.told(FOUR);
        y.see(1, 1);
        y.seed(5);
        for (int i = 0; i < 40; i++) {
            y.set(0, 0, 1 + i % 9);
            due("15: never more than 14", y.about(6), Math.min(14, i + 1));
        }
        for (int i = 13; i >= 0; i--) {
            due("15: left", y.undo(), i);
            due("15: as ahead of it", y.person(0, 0), 1 + (25 + i) % 9);
        }
        due("15: the first ones are forgotten", y.undo(), LATE);
        due("15: SEEN is not undone", y.about(7), 1);
        due("15: THE SEED is not undone", y.seed(0), 5);
        due("15: THE TEXT is not undone", y.about(8), 20);
    }

    private static void number() {
        LateLetters x = Due.told("T151121129511t10t20t30t40");
        long two = 1;
        long[] behind = {1, 1, 2, 3, 5, 8, 13, 21};
        for (int t = 0; t <= 60; t++) {
            due("16: doubled each TICK", x.number(0, t), two);
            two *= 2;
        }
        for (int t = 0; t < behind.length; t++) {
            due("16: DELAY 2, GAP 1", x.number(1, t), behind[t]);
        }
        for (int t = 0; t < behind.length - 1; t++) {
            due("16: DELAY 1, GAP 2", x.number(2, t), behind[t + 1]);
        }
        due("16: DELAY 9, ahead of it", x.number(3, 8), 1);
        due("16: DELAY 9", x.number(3, 9), 2);
        due("16: GAP 5", x.number(3, 14), 3);
        due("16: told ones tell", x.number(3, 18), 4);
        due("16: -1", x.number(0, -1), BAD);
        due("16: 61", x.number(0, 61), BAD);
        due("16: most", x.number(0, MOST), BAD);
        due("16: PERSON 5", x.number(5, 0), UNKNOWN);
        due("16: UNKNOWN is named first", x.number(-1, 61), UNKNOWN);
    }

    private static void soon() {
        LateLetters x = Due.told("T13951121t10t20");
        due("17: one", x.soon(0, 1), 0);
        due("17: two", x.soon(0, 2), 9);
        due("17: NONE", x.soon(0, 99999), NONE);
        due("17: 99999 doubled each TICK", x.soon(1, 99999), 17);
        due("17: just so many", x.soon(1, 8), 3);
        due("17: one more", x.soon(1, 9), 4);
        due("17: by 60", x.soon(0, (int) x.number(0, 60)), 60 - lastSteps(x));
        due("17: more than by 60", x.soon(0, (int) x.number(0, 60) + 1), NONE);
        due("17: 0", x.soon(0, 0), BAD);
        due("17: 100000", x.soon(0, 100000), BAD);
        due("17: least", x.soon(0, LEAST), BAD);
        due("17: PERSON 3", x.soon(3, 1), UNKNOWN);
        due("17: UNKNOWN is named first", x.soon(-1, 0), UNKNOWN);
    }

    /** How many TICKS ahead of 60 the NUMBER is as by 60. */
    private static int lastSteps(LateLetters x) {
        int steps = 0;
        while (steps < 60 && x.number(0, 59 - steps) == x.number(0, 60)) {
            steps++;
        }
        return steps;
    }

    private static void knowers() {
        LateLetters x = Due.told(FOUR);
        int[][] want = {{1, 1, 1, 3, 11, 15, 15, 15, 15, 15}, {1, 1, 1, 1, 1, 1, 1, 3, 11, 15}};
        for (int t = 0; t < 10; t++) {
            due("18: NEWS 0 by " + t, x.knowers(0, t), want[0][t]);
            due("18: NEWS 1 by " + t, x.knowers(1, t), want[1][t]);
        }
        due("18: by 999", x.knowers(0, 999), 15);
        due("18: by 1000", x.knowers(0, 1000), BAD);
        due("18: by -1", x.knowers(0, -1), BAD);
        due("18: NEWS 2", x.knowers(2, 0), UNKNOWN);
        due("18: UNKNOWN is named first", x.knowers(-1, -1), UNKNOWN);
        due("18: most", x.knowers(0, MOST), BAD);
        x.set(0, 0, 1);
        due("18: a DELAY told anew", x.knowers(0, 1), 3);
    }

    private static void judge() {
        LateLetters x = Due.told(FOUR);
        long[][] asked = {
            {1, 132, NONE}, {1, 131, 0}, {1, 133, 0}, {1, 113, 0}, {1, 101, 0}, {1, 142, 0}, {1, 124, 0},
            {1, 200, NONE}, {1, 201, NONE}, {1, 202, 0}, {1, 203, 0}, {1, 210, 0}, {2, 200201, 1},
            {1, 300, NONE}, {1, 301, 0}, {1, 310, 0},
            {1, 411, NONE}, {1, 419, NONE}, {1, 410, 0}, {1, 441, 0},
            {1, 509, NONE}, {1, 508, 0}, {1, 590, 0},
            {1, 613, NONE}, {1, 619, NONE}, {1, 612, 0}, {1, 600, NONE}, {1, 649, 0},
            {1, 702, NONE}, {1, 701, 0}, {1, 730, NONE}, {1, 740, 0},
            {1, 0, 0}, {1, 800, 0}, {1, 900, 0}, {1, 999, 0}, {1, 32, 0},
            {2, 132513, NONE}, {2, 132509, 1}, {3, 132300509, NONE}, {4, 132112510702L, 3},
            {4, 132112510701L, NONE}, {4, 132112123721L, 2}, {4, 419516408521L, NONE}, {4, 509, 0}, {2, 509, 0},
        };
        for (long[] one : asked) {
            due("19: " + one[1], x.judge((int) one[0], one[1]), one[2]);
        }
        due("19: nothing changed", row(x), 102031);
        due("19: LAST neither", x.about(2), 9);
        due("19: no ACTS", x.about(6), 0);
        x.set(0, 1, 5);
        x.set(0, 0, 9);
        x.set(0, 2, 3);
        due("19: LAST of 34", x.judge(1, 534), NONE);
        due("19: NEWS 0 by TICK 9", x.judge(1, 619), NONE);
        due("19: NEWS 0 at TICK 14", x.judge(1, 629), 0);
        LateLetters y = Due.told(FOUR);
        due("19: asked behind a DELAY told", y.judge(2, 401611), NONE);
        due("19: asked of itself", y.judge(1, 611), 0);
        due("19: of one", new LateLetters().judge(4, 300500600700L), NONE);
    }

    private static void judgeRefuses() {
        LateLetters x = Due.told(FOUR);
        due("19: n 0", x.judge(0, 0), BAD);
        due("19: n 5", x.judge(5, 300300300300300L), BAD);
        due("19: n -1", x.judge(-1, 0), BAD);
        due("19: least", x.judge(LEAST, 300), BAD);
        due("19: most", x.judge(MOST, 300), BAD);
        due("19: row -1", x.judge(1, -1), BAD);
        due("19: row least", x.judge(4, Long.MIN_VALUE), BAD);
        due("19: row most", x.judge(4, Long.MAX_VALUE), BAD);
        due("19: row of 4 figures", x.judge(1, 1000), BAD);
        due("19: row of 7 figures", x.judge(2, 1000000), BAD);
        due("19: row of 13 figures", x.judge(4, 1000000000000L), BAD);
        due("19: row of 12 nines", x.judge(4, 999999999999L), 0);
    }

    private static void see() {
        LateLetters x = Due.told(FOUR);
        due("20: PERSON 4", x.see(4, 0), UNKNOWN);
        due("20: UNKNOWN is named first", x.see(-1, -1), UNKNOWN);
        due("20: -1", x.see(0, -1), BAD);
        due("20: 100", x.see(0, 100), BAD);
        due("20: most", x.see(0, MOST), BAD);
        for (int i = 1; i <= 6; i++) {
            due("20: how many", x.see(i % 4, 99), i);
        }
        due("20: the 7th", x.see(0, 0), FULL);
        due("20: BAD is named ahead of FULL", x.see(0, 100), BAD);
        due("20: refused, so not SEEN", x.about(7), 6);
    }

    private static void unsee() {
        LateLetters x = Due.told(FOUR);
        due("21: none", x.unsee(), 0);
        x.see(3, 50);
        x.see(3, 51);
        due("21: two", x.unsee(), 2);
        due("21: then none", x.unsee(), 0);
        due("21: all is so", x.which(0), 1022);
        due("21: anew", x.see(0, 0), 1);
    }

    private static void which() {
        LateLetters x = Due.told(FOUR);
        due("22: none SEEN", x.which(0), 1022);
        x.see(3, 4);
        due("22: of 1", x.which(1), 1 << 1);
        due("22: of 0", x.which(0), 1 << 3);
        due("22: of 2, which tells nobody", x.which(2), 1022);
        x.see(3, 5);
        due("22: both can not be", x.which(1), 0);
        x.unsee();
        x.see(3, 12);
        due("22: DELAY 9", x.which(1), 1 << 9);
        due("22: by PERSON 0", x.which(0), 0);
        x.set(0, 0, 4);
        due("22: as it is when asked", x.which(1), 1 << 8);
        due("22: nothing changed", x.person(1, 0), 1);
        due("22: PERSON 4", x.which(4), UNKNOWN);
        due("22: PERSON -1", x.which(-1), UNKNOWN);
        x.wipe();
        Due.write(x, "T121111t10");
        x.telling();
        due("22: of PEOPLE that there are not any more", x.which(0), 1022);
        due("22: but they are SEEN", x.about(7), 1);
        x.see(1, 6);
        due("22: of others", x.which(0), 1 << 6);
        x.wipe();
        Due.write(x, FOUR);
        x.telling();
        due("22: there again, 6 and 12", x.which(0), 0);
        // By 9 and by less it is the same: GAP 5 of PERSON 0 has gone by only then.
        LateLetters y = Due.told("T13151111t10t20");
        y.see(2, 6);
        due("22: TICK of the second one", y.which(0), 1 << 1);
    }

    private static void share() {
        LateLetters x = Due.told(CHAIN);
        due("23: of 0", x.share(0, true), 3);
        due("23: of 0, below", x.share(0, false), 1);
        due("23: of 1", x.share(1, true), 2);
        due("23: of 2, which tells nobody", x.share(2, true), 0);
        due("23: of 2, below", x.share(2, false), 1);
        due("23: PERSON 3", x.share(3, true), UNKNOWN);
        due("23: PERSON -1", x.share(-1, false), UNKNOWN);
        due("23: nothing changed", x.about(2), 7);
        LateLetters y = Due.told(FORK);
        due("23: of 1 in a fork", y.share(1, true), 3);
        due("23: below", y.share(1, false), 2);
        due("23: of 2 in a fork", y.share(2, true), 1);
        due("23: below", y.share(2, false), 2);
        due("23: DELAY 1", y.share(0, true), 0);
        // LAST goes by all of m.
        y.set(0, 2, 2);
        due("23: LAST of two pieces", y.share(1, true), 3);
    }

    private static void chance() {
        LateLetters x = Due.told(CHAIN);
        int[][] want = {
            {0, 3, 1, 1}, {1, 3, 1, 1}, {2, 3, 7, 10}, {3, 3, 49, 100}, {4, 3, 0, 1}, {8, 3, 0, 1},
            {3, 0, 1, 1}, {2, 10, 0, 1}, {1, 10, 1, 1}, {3, 5, 1, 4}
        };
        for (int[] one : want) {
            due("24: " + one[0] + ", " + one[1], x.chance(one[0], one[1], true), one[2]);
            due("24: below", x.chance(one[0], one[1], false), one[3]);
        }
        due("24: one of two told", Due.told("T13111111t10t20").chance(2, 3, true), 91);
        due("24: all of 8", Due.told(STAR).chance(8, 1, true), 4782969);
        due("24: below", Due.told(STAR).chance(8, 1, false), 10000000);
        due("24: v -1", x.chance(-1, 0, true), BAD);
        due("24: v 9", x.chance(9, 0, true), BAD);
        due("24: x -1", x.chance(0, -1, true), BAD);
        due("24: x 11", x.chance(0, 11, false), BAD);
        due("24: most", x.chance(MOST, LEAST, false), BAD);
    }

    private static void seed() {
        LateLetters x = new LateLetters();
        due("25: at first", x.seed(Long.MIN_VALUE), 0);
        due("25: then", x.seed(-1), Long.MIN_VALUE);
        due("25: then", x.seed(Long.MAX_VALUE), -1);
        due("25: then", x.seed(3), Long.MAX_VALUE);
    }

    private static void drawn() {
        LateLetters x = Due.told(CHAIN);
        int first = (int) (1442695040888963407L >>> 33);
        due("26: once", x.drawn(1), 2 + first % 9 + first / 9 % 9);
        due("26: THE SEED goes on", x.seed(0), 1442695040888963407L);
        due("26: thrice", x.drawn(3), threeDraws());
        due("26: DELAYS stay", 100 * x.person(0, 0) + 10 * x.person(1, 0) + x.person(2, 0), 432);
        due("26: no ACT", x.about(6), 0);
        x.seed(0);
        int parts = x.drawn(1) + x.drawn(2);
        due("26: one and two are three", parts, threeDraws());
        x.seed(12);
        due("26: 0", x.drawn(0), BAD);
        due("26: 41", x.drawn(41), BAD);
        due("26: least", x.drawn(LEAST), BAD);
        due("26: refused, so THE SEED stays", x.seed(0), 12);
        due("26: 40 of one", new LateLetters().drawn(40), 0);
    }

    private static int threeDraws() {
        long s = 0;
        int sum = 0;
        for (int i = 0; i < 3; i++) {
            s = s * 6364136223846793005L + 1442695040888963407L;
            int v = (int) (s >>> 33);
            sum += 2 + v % 9 + v / 9 % 9;
        }
        return sum;
    }

    private static void keep() {
        LateLetters x = Due.told(FOUR);
        due("27: SLOT 0", x.keep(0), 9);
        due("27: SLOT 1", x.keep(1), 9);
        due("27: SLOT 2", x.keep(2), UNKNOWN);
        due("27: SLOT -1", x.keep(-1), UNKNOWN);
        due("27: most", x.keep(MOST), UNKNOWN);
        due("27: SLOT 32", x.keep(32), UNKNOWN);
        x.set(0, 0, 4);
        due("27: ACTS stay", x.keep(0) * 10 + x.about(6), 101);
        due("27: and can be undone", x.undo() * 10 + x.person(0, 0), 3);
        due("27: the last one kept counts", x.again(0), 10);
    }

    private static void again() {
        LateLetters x = Due.told(FOUR);
        due("28: none were kept", x.again(0), LATE);
        due("28: SLOT 2", x.again(2), UNKNOWN);
        due("28: SLOT -1", x.again(-1), UNKNOWN);
        due("28: most", x.again(MOST), UNKNOWN);
        x.keep(1);
        due("28: none in SLOT 0", x.again(0), LATE);
        x.move(3, 2);
        x.set(1, 0, 8);
        x.set(2, 1, 4);
        x.set(0, 2, 3);
        x.see(1, 3);
        x.seed(6);
        x.write('x');
        due("28: SLOT 1", x.again(1), 9);
        due("28: no ACTS", x.about(6), 0);
        due("28: none to undo", x.undo(), LATE);
        due("28: THE PLAN", row(x), 102031);
        due("28: DELAY", x.person(1, 0), 1);
        due("28: GAP", x.person(2, 1), 1);
        due("28: m", x.about(1), 2);
        due("28: SEEN is not kept", x.about(7), 1);
        due("28: THE SEED is not kept", x.seed(0), 6);
        due("28: THE TEXT is not kept", x.about(8), 21);
        x.set(1, 0, 9);
        due("28: once more", x.again(1) * 10 + x.person(1, 0), 91);
        x.keep(0);
        x.keep(1);
        due("28: each SLOT by itself", x.again(0) * 100 + x.again(1), 909);
        x.telling();
        x.wipe();
        Due.write(x, FOUR);
        x.telling();
        due("28: LATE leaves the ACTS", x.set(1, 0, 2) * 100 + x.again(0) * 10 + x.about(6), 100 - 30 + 1);
    }
}
