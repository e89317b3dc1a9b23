import java.io.IOException;
import java.util.Random;

/** The document's part 1 (PEOPLE, THE PLAN, LETTERS, THE TEXT, ACTS): each sentence that names an edge, by itself. */
public final class TellingEdgeTest {
    private static Sentences s;

    public static void main(String[] args) throws IOException {
        s = new Sentences("TellingEdgeTest");
        manyCalls();
        people();
        delaysAndGaps();
        news();
        personZero();
        planStands();
        rowOfTold();
        begun();
        there();
        last();
        text();
        tellingOfLetters();
        tellingOfPlan();
        tellingIsRead();
        firstFault();
        faultsNamed();
        onlyNotAtItsEnd();
        movedTo();
        movedBehind();
        changed();
        quickened();
        set();
        quickAll();
        quickTeller();
        quickTold();
        quickRow();
        actsForgotten();
        actsUndone();
        s.end();
    }

    private static void manyCalls() {
        s.of("An object is used for at most 512 calls after it has been made");
        LateLetters x = new LateLetters();
        for (int call = 1; call <= 512; call++) {
            s.is("seed, call " + call, x.seed(call), call - 1);
        }
        LateLetters y = new LateLetters();
        for (int call = 1; call <= 511; call++) {
            y.set(0, 0, 1 + call % 9);
        }
        s.is("undo, call 512", y.undo(), 13);
        LateLetters z = new LateLetters();
        for (int call = 1; call <= 511; call++) {
            z.write('T');
        }
        s.is("wipe, call 512", z.wipe(), 60);
    }

    private static void people() {
        s.of("PEOPLE are 0 .. n less 1 (n is 1 ..");
        for (int n = 1; n <= 8; n++) {
            LateLetters x = Due.told(Look.star(1, n));
            s.is("n", x.about(0), n);
            s.is("the last of " + n, x.person(n - 1, 0), 1);
            s.is("one more than " + n, x.person(n, 0), Look.UNKNOWN);
            s.is("one less than 0", x.person(-1, 0), Look.UNKNOWN);
        }
        s.is("n is 0", Look.faultOf("T10"), 2);
        s.is("n is 9", Look.faultOf("T19"), 2);
    }

    private static void delaysAndGaps() {
        s.of("8; 1 at first), each with a DELAY (1 .. 9) and a GAP (1 .. 5); both 1 at first.");
        LateLetters x = new LateLetters();
        s.is("PEOPLE at first", x.about(0), 1);
        s.is("DELAY at first", x.person(0, 0), 1);
        s.is("GAP at first", x.person(0, 1), 1);
        int[] most = {9, 5};
        for (int what = 0; what < 2; what++) {
            for (int v = 1; v <= most[what]; v++) {
                x.set(0, what, v);
                s.is("told " + v, x.person(0, what), v);
            }
            for (int v : Look.outside(1, most[what])) {
                s.is("told " + v, x.set(0, what, v), Look.BAD);
                s.is("then", x.person(0, what), most[what]);
            }
        }
    }

    private static void news() {
        s.of("There are NEWS 0 .. m less 1 (m is 1 .. 3; 1 at first)");
        LateLetters x = new LateLetters();
        s.is("at first", x.about(1), 1);
        for (int m = 1; m <= 3; m++) {
            x.set(0, 2, m);
            s.is("m", x.about(1), m);
            s.is("the last of " + m, x.last(m - 1), 0);
            s.is("one more than " + m, x.last(m), Look.UNKNOWN);
            s.is("one less than 0", x.last(-1), Look.UNKNOWN);
        }
        for (int m : Look.outside(1, 3)) {
            s.is("m told " + m, x.set(0, 2, m), Look.BAD);
            s.is("then", x.about(1), 3);
        }
    }

    private static void personZero() {
        s.of("PERSON 0 knows all of them at TICK 0");
        LateLetters x = Due.told("T329595t10");
        for (int k = 0; k < 3; k++) {
            s.is("NEWS " + k, x.knows(0, k), 0);
            s.is("by TICK 0", x.knowers(k, 0), 1);
        }
        LateLetters y = new LateLetters();
        s.is("alone", y.knows(0, 0), 0);
        s.is("alone by TICK 0", y.knowers(0, 0), 1);
    }

    private static void planStands() {
        s.of("THE PLAN is a row in which each PERSON but 0 stands once, with its TELLER: PERSON 0, or one that stands ahead of it in the row.");
        Random random = new Random(11);
        for (int run = 0; run < 60; run++) {
            int n = 1 + run % 8;
            LateLetters x = Due.told(Look.star(1, n));
            for (int act = 0; act < 22; act++) {
                actByChance(x, random);
                s.holds("of " + n, stands(x, n));
            }
        }
    }

    private static void actByChance(LateLetters x, Random random) {
        switch (random.nextInt(8)) {
            case 0: x.quicken(); break;
            case 1: x.undo(); break;
            case 2:
            case 3: x.change(random.nextInt(7)); break;
            default: x.move(random.nextInt(8), random.nextInt(8)); break;
        }
    }

    private static boolean stands(LateLetters x, int n) {
        int ahead = 1;
        for (int i = 0; i < n - 1; i++) {
            int p = x.plan(i);
            if (p < 1 || p >= n || (ahead >> p & 1) != 0 || (ahead >> x.person(p, 2) & 1) == 0) {
                return false;
            }
            ahead |= 1 << p;
        }
        return x.plan(n - 1) == Look.UNKNOWN;
    }

    private static void rowOfTold() {
        s.of("its TOLD (in the row in which they stand in THE PLAN): for NEWS 0, then 1 .., to each of its TOLD one behind the other");
        s.same("2 ahead of 1", Look.ticks(Due.told("T23111111t20t10")), Look.row(0, 0, 2, 4, 1, 3));
        s.same("1 ahead of 2", Look.ticks(Due.told("T23111111t10t20")), Look.row(0, 0, 1, 3, 2, 4));
        s.same("one told, three pieces", Look.ticks(Due.told("T321111t10")), Look.row(0, 0, 0, 1, 2, 3));
        s.same("none told", Look.ticks(Due.told("T3111")), Look.row(0, 0, 0));
    }

    private static void begun() {
        s.of("a LETTER is BEGUN as soon as the teller KNOWS that piece of NEWS, and GAP TICKS have gone by since its last LETTER was BEGUN (if there is one)");
        LateLetters first = Due.told("T13451111t10t20");
        s.is("the first one waits for no GAP", first.knows(1, 0), 4);
        s.is("the second one for a GAP of 5", first.knows(2, 0), 9);
        // 1 KNOWS at 1 and 6: its GAP of 5 has gone by just then.
        s.same("just then", Look.ticks(Due.told("T23151511t10t21")), Look.row(0, 0, 1, 6, 2, 7));
        // 1 KNOWS at 1 and 5, but may begin only at 6.
        s.same("a TICK later", Look.ticks(Due.told("T23141511t10t21")), Look.row(0, 0, 1, 5, 2, 7));
        // 1 KNOWS at 1 and 6: its GAP of 4 has gone by at 5, but there is nothing to tell then.
        s.same("a TICK ahead", Look.ticks(Due.told("T23151411t10t21")), Look.row(0, 0, 1, 6, 2, 7));
        // 0 begins at 0, 5, 10, 15; 1 (DELAY 2) KNOWS at 1 and 11.
        s.same("long ago", Look.ticks(Due.told("T2415211111t10t30t21")), Look.row(0, 0, 1, 11, 3, 13, 6, 16));
    }

    private static void there() {
        s.of("it is there DELAY TICKS behind that (GAP, DELAY of the teller): then the told one KNOWS that piece of NEWS.");
        s.same("DELAY 1, GAP 1 of the teller, 9 and 5 of the told", Look.ticks(Due.told("T221195t10")), Look.row(0, 0, 1, 2));
        s.same("DELAY 9, GAP 5 of the teller", Look.ticks(Due.told("T229511t10")), Look.row(0, 0, 9, 14));
        s.same("several on their way", Look.ticks(Due.told("T1491111111t10t20t30")), Look.row(0, 9, 10, 11));
    }

    private static void last() {
        s.of("LAST of a piece of NEWS: the greatest TICK at which some PERSON comes to KNOW it; LAST: the greatest of all.");
        LateLetters x = Due.told(Look.FOUR);
        s.is("of NEWS 0, by PERSON 2", x.last(0), 5);
        s.is("of NEWS 1", x.last(1), 9);
        s.is("of all", x.about(2), 9);
        s.is("by one that is neither first nor last in the row", Due.told("T1415111111t10t20t31").last(0), 6);
        LateLetters one = new LateLetters();
        s.is("of one", one.last(0), 0);
        s.is("of one, of all", one.about(2), 0);
        s.is("of two", Due.told("T129511t10").last(0), 9);
        x.set(0, 0, 9);
        s.is("of NEWS 0, a DELAY told anew", x.last(0), 11);
        Look.tell(x, "T221111t10");
        s.is("2 and 3 are not there any more", x.last(1), 2);
        Look.tell(x, "T2111");
        s.is("nor is 1", x.last(1), 0);
        s.is("nor for NEWS 0", x.last(0), 0);
    }

    private static void text() {
        s.of("THE TEXT is letters (never more than 60).");
        LateLetters x = new LateLetters();
        for (int round = 0; round < 2; round++) {
            for (int i = 1; i <= 60; i++) {
                s.is("letter", x.write(i), i);
            }
            for (int i = 0; i < 3; i++) {
                s.is("one more", x.write('T'), Look.FULL);
                s.is("so many all the same", x.about(8), 60);
            }
            s.is("wiped", x.wipe(), 60);
        }
    }

    /** The letters that may come behind a text that could become a TELLING: of all 256. */
    private static String fitting(String begun) {
        StringBuilder b = new StringBuilder();
        for (char c = 0; c < 256; c++) {
            if (Look.faultOf(begun + c) != begun.length()) {
                b.append(c);
            } else {
                s.is("a fault whatever comes behind it", Look.faultOf(begun + c + "1t10"), begun.length());
            }
        }
        return b.toString();
    }

    /** Where a whole TELLING is reached its length is no fault, so it is asked apart. */
    private static void fits(String begun, String due) {
        String got = fitting(begun);
        s.holds("behind '" + begun + "' fits '" + got + "', due is '" + due + "'", got.equals(due));
    }

    private static void tellingOfLetters() {
        s.of("A TELLING is a TEXT: T, m (1 .. 3), n (1 .. 8), then n times DELAY (1 .. 9) and GAP (1 .. 5) (a figure each, PERSON 0's first)");
        fits("", "T");
        fits("T", "123");
        for (int m = 1; m <= 3; m++) {
            fits("T" + m, "12345678");
        }
        for (int n = 1; n <= 8; n++) {
            for (int p = 0; p < n; p++) {
                fits("T1" + n + Look.times("95", p), "123456789");
                fits("T1" + n + Look.times("11", p) + "9", "12345");
            }
        }
        fits("T1195", "");
        fits("T3111", "");
    }

    private static void tellingOfPlan() {
        s.of("then for each PERSON but 0, in the row of THE PLAN: t, that PERSON, its TELLER (a figure each). (Without blanks.)");
        String two = "T221151";
        fits(two, "t");
        fits(two + "t", "1");
        fits(two + "t1", "0");
        fits(two + "t10", "");
        String eight = "T38" + Look.times("95", 8);
        String[][] due = {
            {"", "t"}, {"t", "1234567"}, {"t3", "0"}, {"t30", "t"}, {"t30t", "124567"}, {"t30t1", "03"}, {"t30t13", "t"},
            {"t30t13t", "24567"}, {"t30t13t7", "013"}, {"t30t13t71t", "2456"}, {"t30t13t71t2", "0137"},
            {"t30t13t71t27t", "456"}, {"t30t13t71t27t6", "01237"}, {"t30t13t71t27t60t", "45"}, {"t30t13t71t27t60t4", "012367"},
            {"t30t13t71t27t60t46t", "5"}, {"t30t13t71t27t60t46t5", "0123467"}, {"t30t13t71t27t60t46t54", ""}
        };
        for (String[] one : due) {
            fits(eight + one[0], one[1]);
        }
        s.is("a blank", Look.faultOf("T1 111"), 2);
        s.is("a blank behind", Look.faultOf("T1111 "), 5);
        s.is("small t, great T", Look.faultOf("t1111"), 0);
        s.is("great T, small t", Look.faultOf("T121111T10"), 7);
    }

    private static void tellingIsRead() {
        s.of("THE TEXT is THE TELLING");
        LateLetters x = Due.told("T389512233445516273t30t13t71t27t60t46t54");
        s.is("m", x.about(1), 3);
        s.is("n", x.about(0), 8);
        s.same("DELAYS", Look.all(x, 0), Look.row(9, 1, 2, 3, 4, 5, 6, 7));
        s.same("GAPS", Look.all(x, 1), Look.row(5, 2, 3, 4, 5, 1, 2, 3));
        s.same("THE PLAN", Look.plan(x), Look.row(30, 13, 71, 27, 60, 46, 54));
    }

    private static void firstFault() {
        s.of("FAULT: the place (from 0) of the first letter by which THE TEXT can be no TELLING, whatever came behind it");
        String text = Look.EIGHT;
        for (int place = 0; place < text.length(); place++) {
            String one = text.substring(0, place) + "x" + text.substring(place + 1);
            s.is("at " + place, Look.faultOf(one), place);
            s.is("nothing behind " + place, Look.faultOf(one.substring(0, place + 1)), place);
            s.is("two faults", Look.faultOf(one.substring(0, place + 1) + "x" + one.substring(place + 1)), place);
        }
        s.is("a letter 0", Look.faultOf("T1" + (char) 0), 2);
        s.is("a letter 255", Look.faultOf("T1" + (char) 255), 2);
        s.is("the first of all", Look.faultOf("" + (char) 0), 0);
    }

    private static void faultsNamed() {
        s.of("(its length set aside; so a PERSON that stands already, a TELLER that does not, a t where all stand)");
        String eight = "T18" + Look.times("11", 8);
        s.is("a PERSON that stands just ahead", Look.faultOf(eight + "t10t1"), 23);
        s.is("a PERSON that stands first of seven", Look.faultOf(eight + "t10t20t30t40t50t60t1"), 38);
        s.is("a TELLER that stands nowhere yet", Look.faultOf(eight + "t12"), 21);
        s.is("a TELLER that stands behind", Look.faultOf(eight + "t12t20t30t40t50t60t70"), 21);
        s.is("itself", Look.faultOf(eight + "t11"), 21);
        s.is("itself as the last one", Look.faultOf(eight + "t10t20t30t40t50t60t77"), 39);
        s.is("a t where all stand", Look.faultOf(eight + "t10t20t30t40t50t60t70t"), 40);
        s.is("a t where all of one stand", Look.faultOf("T1111t"), 5);
        s.is("a full TEXT", Look.faultOf(eight + Look.times("t10", 13) + "t1"), 23);
        s.is("a full TEXT that is a TELLING as far as 40", Look.faultOf(Look.EIGHT + Look.times("t", 20)), 40);
        s.is("60 times T", Look.faultOf(Look.times("T", 60)), 1);
    }

    private static void onlyNotAtItsEnd() {
        s.of("its length, if it is only not at its end; NONE: none.");
        String[] whole = {"T1111", "T3195", "T121111t10", Look.FOUR, Look.EIGHT, Look.CHAIN, Look.star(3, 8)};
        for (String text : whole) {
            for (int length = 0; length < text.length(); length++) {
                s.is(text.substring(0, length), Look.faultOf(text.substring(0, length)), length);
            }
            s.is(text, Look.faultOf(text), Look.NONE);
        }
    }

    private static void movedTo() {
        s.of("MOVED: a PERSON but 0 has another TELLER (not itself, nor one that it tells, by however many)");
        for (int p = 0; p < 8; p++) {
            for (int q = 0; q < 8; q++) {
                LateLetters x = Due.told(Look.CHAIN);
                int got = x.move(p, q);
                if (p == 0) {
                    s.is("PERSON 0 by " + q, got, Look.UNKNOWN);
                } else if (q >= p - 1) {
                    s.is(p + " by " + q + ", in a chain", got, Look.LATE);
                    s.is("then", x.person(p, 2), p - 1);
                } else {
                    s.holds(p + " by " + q + " is done", got > 0);
                    s.is("then", x.person(p, 2), q);
                }
            }
        }
        LateLetters y = Due.told(Look.star(1, 8));
        s.is("the other way round", y.move(1, 2) * 100 + y.move(2, 1), 600 + Look.LATE);
    }

    private static void movedBehind() {
        s.of("it and all that it tells, by however many, go behind all others in THE PLAN, the row among them as it was.");
        LateLetters x = Due.told("T181111111111111111t10t21t30t41t53t62t75");
        x.move(1, 5);
        s.same("1, 2, 4, 6", Look.plan(x), Look.row(30, 53, 75, 15, 21, 41, 62));
        x.move(6, 0);
        s.same("the last one stays there", Look.plan(x), Look.row(30, 53, 75, 15, 21, 41, 60));
        x.move(2, 7);
        s.same("one alone", Look.plan(x), Look.row(30, 53, 75, 15, 41, 60, 27));
        x.move(3, 6);
        s.same("from the first place", Look.plan(x), Look.row(60, 36, 53, 75, 15, 41, 27));
        LateLetters y = Due.told("T13111111t10t20");
        y.move(1, 2);
        s.same("of two", Look.plan(y), Look.row(20, 12));
        LateLetters z = Due.told(Look.CHAIN);
        z.move(2, 0);
        s.same("six of seven", Look.plan(z), Look.row(10, 20, 32, 43, 54, 65, 76));
    }

    private static void changed() {
        s.of("CHANGED at i: the i-th and the next one in THE PLAN (from 0) change places, if the next one's TELLER is not the i-th.");
        for (int i = 0; i < 6; i++) {
            LateLetters x = Due.told(Look.star(1, 8));
            s.is("at " + i, x.change(i), 7);
            for (int place = 0; place < 7; place++) {
                int due = place == i ? i + 2 : place == i + 1 ? i + 1 : place + 1;
                s.is("at " + i + ": place " + place, x.plan(place), due);
            }
            LateLetters y = Due.told(Look.CHAIN);
            s.is("its TELLER, at " + i, y.change(i), Look.LATE);
        }
        s.is("no next one", Due.told(Look.star(1, 8)).change(6), Look.UNKNOWN);
        s.is("no next one in a chain", Due.told(Look.CHAIN).change(6), Look.UNKNOWN);
        LateLetters z = Due.told("T1411111111t10t20t31");
        s.is("the i-th one's TELLER is another", z.change(1), 2);
        s.same("3 ahead of 2", Look.plan(z), Look.row(10, 31, 20));
        s.is("then its TELLER stands ahead of it", z.change(0), Look.LATE);
    }

    private static void quickened() {
        s.of("QUICKENED: THE PLAN becomes the QUICK one.");
        LateLetters x = new LateLetters();
        s.is("of one", x.quicken(), 0);
        s.is("no place", x.plan(0), Look.UNKNOWN);
        LateLetters y = Due.told("T329511t10");
        s.is("of two", y.quicken(), 19);
        s.same("of two", Look.plan(y), Look.row(10));
        LateLetters z = Due.told(Look.CHAIN);
        s.is("of 8", z.quicken(), 3);
        s.same("of 8", Look.plan(z), Look.row(10, 20, 31, 40, 51, 62, 73));
    }

    private static void set() {
        s.of("SET: DELAY or GAP of a PERSON is told anew, or m.");
        LateLetters x = Due.told(Look.EIGHT);
        long[] delays = {2, 5, 4, 3, 1, 6, 8, 9};
        long[] gaps = {1, 2, 1, 1, 1, 1, 2, 4};
        for (int p = 0; p < 8; p++) {
            s.is("DELAY of " + p, x.set(p, 0, 7), delays[p]);
            s.is("GAP of " + p, x.set(p, 1, 3), gaps[p]);
            delays[p] = 7;
            gaps[p] = 3;
            s.same("no other's DELAY", Look.all(x, 0), delays);
            s.same("no other's GAP", Look.all(x, 1), gaps);
        }
        s.is("m", x.set(0, 2, 1), 3);
        s.is("m then", x.about(1), 1);
        s.same("DELAYS then", Look.all(x, 0), delays);
    }

    private static void quickAll() {
        s.of("by one piece of NEWS; all are told that are not, but PERSON 0, that knows: as long as some is not told");
        for (int n = 1; n <= 8; n++) {
            LateLetters x = Due.told(Look.star(3, n));
            x.quicken();
            s.holds("all of " + n + " stand", stands(x, n));
            // All alike, one piece of NEWS: they double each TICK.
            s.is("LAST of " + n, x.last(0), n == 1 ? 0 : n == 2 ? 1 : n <= 4 ? 2 : 3);
        }
    }

    private static void quickTeller() {
        s.of("of all that KNOW (or come to KNOW by LETTERS BEGUN so far) the one whose next LETTER would be there soonest (of like ones the least number)");
        s.same("1 by 3, 0 by 4", quick("T13221111t10t20"), Look.row(10, 21));
        s.same("both by 4", quick("T13222121t10t20"), Look.row(10, 20));
        s.same("1 by 5, 0 by 4", quick("T13223131t10t20"), Look.row(10, 20));
        s.same("0 by 6 for its GAP, 1 by 5", quick("T13154141t10t20"), Look.row(10, 21));
        s.same("0 by 6 for its GAP, 1 by 6", quick("T13155151t10t20"), Look.row(10, 20));
        // 1 KNOWS at 9 only, and yet is counted at once: both by 10, then 0 by 11, 1 by 10.
        s.same("on its way", quick("T1491115151t10t20t30"), Look.row(10, 20, 31));
        // 0 tells 2 by 1; 0 and 2 could by 2: 0 tells 1; 2 by 2: it tells 3; 0 and 2 could by 3: 0 tells 4.
        s.same("0 ahead of 2", quick("T151121115151t10t20t30t40"), Look.row(20, 10, 32, 40));
        // 0 tells 1 by 1, 1 tells 2 by 3 and 3 by 4; 1 and 2 could by 5, 0 by 6.
        s.same("1 ahead of 2", quick("T151521219191t10t20t30t40"), Look.row(10, 21, 31, 41));
    }

    private static long[] quick(String text) {
        LateLetters x = Due.told(text);
        x.quicken();
        return Look.plan(x);
    }

    private static void quickTold() {
        s.of("tells the one that is not told with the least DELAY (of like ones the least GAP, then the least number)");
        s.same("DELAY, GAP, number", quick("T151131252424t10t20t30t40"), Look.row(30, 40, 20, 13));
        s.same("a greater GAP behind a less one", quick("T1411242522t10t20t30"), Look.row(30, 10, 20));
        s.same("DELAY ahead of GAP", quick("T13912115t10t20"), Look.row(20, 10));
    }

    private static void quickRow() {
        s.of("THE PLAN is the row in which they were so told.");
        LateLetters x = Due.told("T1411913121t10t20t30");
        x.quicken();
        s.is("first", x.plan(0), 3);
        s.is("second", x.plan(1), 2);
        s.is("third", x.plan(2), 1);
        s.is("no fourth", x.plan(3), Look.UNKNOWN);
    }

    private static void actsForgotten() {
        s.of("ACTS (MOVED, CHANGED, QUICKENED, SET) are a row (never more than 14; if it has 14, the first one is forgotten ahead of the next)");
        for (int kind = 0; kind < 6; kind++) {
            LateLetters x = Due.told("T13111111t10t20");
            for (int i = 1; i <= 14; i++) {
                s.is("DELAY ahead of it", x.set(0, 0, 1 + i % 9), i == 1 ? 1 : 1 + (i - 1) % 9);
                s.is("ACTS", x.about(6), i);
            }
            s.holds("the 15th, kind " + kind, act(x, kind) >= 0);
            s.is("ACTS, kind " + kind, x.about(6), 14);
            for (int left = 13; left >= 0; left--) {
                s.is("undone, kind " + kind, x.undo(), left);
                s.is("DELAY then", x.person(0, 0), 1 + (left + 1) % 9);
            }
            s.same("THE PLAN", Look.plan(x), Look.row(10, 20));
            s.is("the first one is forgotten", x.undo(), Look.LATE);
        }
    }

    private static int act(LateLetters x, int kind) {
        switch (kind) {
            case 0: return x.move(1, 2);
            case 1: return x.change(0);
            case 2: return x.quicken();
            case 3: return x.set(2, 0, 9);
            case 4: return x.set(1, 1, 5);
            default: return x.set(0, 2, 3);
        }
    }

    private static void actsUndone() {
        s.of("the last one can be undone. Each that is not refused is an ACT.");
        for (int kind = 0; kind < 6; kind++) {
            LateLetters x = Due.told("T13111111t10t20");
            s.is("none", x.undo(), Look.LATE);
            act(x, kind);
            s.is("an ACT", x.about(6), 1);
            s.is("undone", x.undo(), 0);
            s.is("ACTS then", x.about(6), 0);
            s.same("THE PLAN", Look.plan(x), Look.row(10, 20));
            s.same("DELAYS", Look.all(x, 0), Look.row(1, 1, 1));
            s.same("GAPS", Look.all(x, 1), Look.row(1, 1, 1));
            s.is("m", x.about(1), 1);
            s.is("none then", x.undo(), Look.LATE);
        }
        LateLetters y = Due.told(Look.FOUR);
        int refused = y.move(1, 3) + y.move(0, 1) + y.change(2) + y.change(-1) + y.set(0, 0, 10) + y.set(4, 0, 1) + y.set(1, 2, 1);
        s.is("all refused", refused, 2 * Look.BAD + Look.LATE + 4 * Look.UNKNOWN);
        s.is("no ACTS", y.about(6), 0);
        y.quicken();
        y.quicken();
        y.set(0, 0, 3);
        s.is("ACTS that change nothing", y.about(6), 3);
    }
}
