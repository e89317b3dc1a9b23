import java.io.IOException;

/** Promises 1 to 28: what each call refuses, where it answers NONE, and the least and the greatest that it takes. */
public final class CallsEdgeTest {
    private static Sentences s;

    public static void main(String[] args) throws IOException {
        s = new Sentences("CallsEdgeTest");
        aNewObject();
        write();
        writeRefused();
        wipe();
        fault();
        telling();
        tellingLate();
        about();
        person();
        plan();
        knows();
        last();
        move();
        change();
        quicken();
        set();
        undo();
        number();
        soon();
        knowers();
        judge();
        see();
        unsee();
        which();
        share();
        chance();
        seed();
        drawn();
        keep();
        again();
        s.end();
    }

    private static void aNewObject() {
        s.of("`LateLetters()`: One person.");
        int[] due = {1, 1, 0, 0, 0, 0, 0, 0, 0};
        LateLetters x = new LateLetters();
        for (int what = 0; what < due.length; what++) {
            s.is("about " + what, x.about(what), due[what]);
        }
        int[] ofZero = {1, 1, Look.NONE, Look.NONE, 0, 30, Look.NONE};
        for (int what = 0; what < ofZero.length; what++) {
            s.is("person " + what, x.person(0, what), ofZero[what]);
        }
        s.is("no other", x.person(1, 0), Look.UNKNOWN);
        s.is("no place", x.plan(0), Look.UNKNOWN);
        s.is("no ACT", x.undo(), Look.LATE);
        s.is("no SEED", x.seed(0), 0);
        s.is("nothing SEEN", x.unsee(), 0);
        s.is("no TEXT", x.wipe(), 0);
        s.is("nothing in SLOT 0", x.again(0), Look.LATE);
        s.is("nothing in SLOT 1", x.again(1), Look.LATE);
        LateLetters y = new LateLetters();
        x.set(0, 0, 9);
        x.write('T');
        x.keep(0);
        x.see(0, 0);
        x.seed(9);
        s.is("another object has its own DELAY", y.person(0, 0), 1);
        s.is("its own TEXT", y.about(8), 0);
        s.is("its own SLOTS", y.again(0), Look.LATE);
        s.is("its own SEEN", y.about(7), 0);
        s.is("its own SEED", y.seed(0), 0);
    }

    private static void write() {
        s.of("A letter (0 .. 255) comes behind THE TEXT: how long it is.");
        for (int from = 0; from < 256; from += 50) {
            LateLetters x = new LateLetters();
            for (int i = 0; i < 60 && from + i < 256; i++) {
                s.is("letter " + (from + i), x.write(from + i), i + 1);
            }
        }
        LateLetters y = new LateLetters();
        Due.write(y, "T111");
        s.is("behind it", y.fault(), 4);
        y.write('1');
        s.is("behind it", y.fault(), Look.NONE);
    }

    private static void writeRefused() {
        s.of("BAD; FULL: there are 60.");
        LateLetters x = new LateLetters();
        for (int letter : Look.outside(0, 255)) {
            s.is("letter " + letter, x.write(letter), Look.BAD);
            s.is("none came", x.about(8), 0);
        }
        for (int i = 1; i <= 59; i++) {
            x.write('T');
        }
        s.is("the 60th", x.write('T'), 60);
        s.is("the 61st", x.write('T'), Look.FULL);
        s.is("the 61st, 0", x.write(0), Look.FULL);
        s.is("the 61st, 255", x.write(255), Look.FULL);
        s.is("BAD ahead of FULL", x.write(256), Look.BAD);
        s.is("60 all the same", x.wipe(), 60);
        s.is("not FULL then", x.write('T'), 1);
    }

    private static void wipe() {
        s.of("THE TEXT is empty: how long it was.");
        LateLetters x = new LateLetters();
        for (int length = 0; length <= 60; length += length == 0 ? 1 : 59) {
            Due.write(x, Look.times("1", length));
            s.is("of " + length, x.wipe(), length);
            s.is("then", x.about(8), 0);
            s.is("FAULT of the empty one", x.fault(), 0);
            s.is("once more", x.wipe(), 0);
        }
        LateLetters y = Due.told(Look.FOUR);
        s.is("of a TELLING", y.wipe(), 20);
        s.is("THE TELLING stays", y.about(2), 9);
    }

    private static void fault() {
        s.of("`int fault()`: FAULT; NONE.");
        s.is("the empty TEXT", Look.faultOf(""), 0);
        s.is("the first letter", Look.faultOf("x"), 0);
        s.is("not at its end", Look.faultOf("T"), 1);
        s.is("the least TELLING", Look.faultOf("T1111"), Look.NONE);
        s.is("the greatest TELLING", Look.faultOf(Look.EIGHT), Look.NONE);
        s.is("one letter less", Look.faultOf(Look.EIGHT.substring(0, 39)), 39);
        s.is("one letter more", Look.faultOf(Look.EIGHT + "0"), 40);
        s.is("60 letters", Look.faultOf(Look.EIGHT + Look.times("0", 20)), 40);
    }

    private static void telling() {
        s.of("THE TEXT is THE TELLING (no ACTS; what was kept is gone; THE TEXT, SEEN, THE SEED stay): LAST.");
        LateLetters x = Due.told("T1111");
        for (int i = 0; i < 14; i++) {
            x.set(0, 0, 2);
        }
        x.keep(0);
        x.keep(1);
        x.see(0, 5);
        x.seed(Long.MIN_VALUE);
        s.is("the least", x.telling(), 0);
        s.is("no ACTS", x.about(6), 0);
        s.is("none to undo", x.undo(), Look.LATE);
        s.is("SLOT 0 is gone", x.again(0), Look.LATE);
        s.is("SLOT 1 is gone", x.again(1), Look.LATE);
        s.is("DELAY", x.person(0, 0), 1);
        s.is("THE TEXT stays", x.about(8), 5);
        s.is("SEEN stays", x.about(7), 1);
        s.is("what is SEEN stays", x.which(0), 0);
        s.is("THE SEED stays", x.seed(0), Long.MIN_VALUE);
        s.is("the greatest", Look.tell(x, Look.EIGHT), 23);
        s.is("of 8", x.about(0), 8);
        s.is("once more", x.telling(), 23);
        s.is("the least again", Look.tell(x, "T1111"), 0);
        s.is("of 1", x.about(0), 1);
        s.is("TOLD of 1", x.person(0, 4), 0);
    }

    private static void tellingLate() {
        s.of("LATE: a FAULT.");
        String[] texts = {"", "T", "x", "T1", "T11", "T111", "T11111", "T0111", "T121111", "T121111t1", "T121111t10t", "T121111t11", "T191111"};
        for (String text : texts) {
            LateLetters x = Due.told(Look.FOUR);
            s.is("'" + text + "'", Look.tell(x, text), Look.LATE);
            s.same("THE PLAN then", Look.plan(x), Look.row(10, 20, 31));
            s.same("DELAYS then", Look.all(x, 0), Look.row(3, 1, 4, 2));
            s.is("LAST then", x.about(2), 9);
        }
    }

    private static void about() {
        s.of("PEOPLE (what = 0), m (1), LAST (2), LAST, if THE PLAN were the QUICK one (3), BEST (4; LATE: more than 6 PEOPLE), LETTERS that are BEGUN in all (5), ACTS (6), SEEN (7), letters of THE TEXT (8). BAD.");
        LateLetters x = Due.told(Look.EIGHT);
        int[] due = {8, 3, 23, 13, Look.LATE, 21, 0, 0, 40};
        for (int what = 0; what < due.length; what++) {
            s.is("what " + what, x.about(what), due[what]);
        }
        for (int what : Look.outside(0, 8)) {
            s.is("what " + what, x.about(what), Look.BAD);
            s.is("what " + what + " of one", new LateLetters().about(what), Look.BAD);
        }
        for (int n = 1; n <= 8; n++) {
            s.holds("BEST of " + n, (Due.told(Look.star(1, n)).about(4) == Look.LATE) == (n > 6));
            for (int m = 1; m <= 3; m++) {
                s.is("LETTERS", Due.told(Look.star(m, n)).about(5), m * (n - 1));
            }
        }
    }

    private static void person() {
        s.of("Of a PERSON its DELAY (what = 0), GAP (1), TELLER (2; NONE: of PERSON 0), its place in THE PLAN (3; NONE: of PERSON 0), how many TOLD it has (4), SLACK (5), BEGUN when GATHERED (6; NONE: of PERSON 0). UNKNOWN; BAD.");
        LateLetters x = Due.told(Look.EIGHT);
        long[][] due = {
            {2, 5, 4, 3, 1, 6, 8, 9}, {1, 2, 1, 1, 1, 1, 2, 4}, {Look.NONE, 0, 0, 7, 0, 1, 4, 2}, {Look.NONE, 2, 0, 3, 4, 5, 6, 1},
            {3, 1, 1, 0, 1, 0, 0, 1}, {0, 9, 0, 30, 12, 30, 30, 0}, {Look.NONE, 14, 15, 0, 13, 9, 12, 11}
        };
        for (int what = 0; what < due.length; what++) {
            s.same("what " + what, Look.all(x, what), due[what]);
        }
        for (int what : Look.outside(0, 6)) {
            s.is("what " + what, x.person(0, what), Look.BAD);
            s.is("what " + what + " of the last", x.person(7, what), Look.BAD);
        }
        for (int p : Look.outside(0, 7)) {
            s.is("PERSON " + p, x.person(p, 0), Look.UNKNOWN);
            s.is("PERSON " + p + ", SLACK", x.person(p, 5), Look.UNKNOWN);
        }
    }

    private static void plan() {
        s.of("Who stands at a place of THE PLAN (from 0). UNKNOWN.");
        LateLetters x = Due.told(Look.EIGHT);
        int[] due = {2, 7, 1, 3, 4, 5, 6};
        for (int place = 0; place < 7; place++) {
            s.is("place " + place, x.plan(place), due[place]);
        }
        for (int place : Look.outside(0, 6)) {
            s.is("place " + place, x.plan(place), Look.UNKNOWN);
        }
        s.is("of one", new LateLetters().plan(0), Look.UNKNOWN);
        s.is("of two", Due.told("T121111t10").plan(0), 1);
        s.is("of two, the next", Due.told("T121111t10").plan(1), Look.UNKNOWN);
    }

    private static void knows() {
        s.of("The TICK at which a PERSON KNOWS a piece of NEWS. UNKNOWN: person, news.");
        LateLetters x = Due.told(Look.EIGHT);
        int[] due = {0, 9, 8, 23, 10, 14, 11, 12};
        for (int p = 0; p < 8; p++) {
            s.is("PERSON " + p, x.knows(p, 2), due[p]);
        }
        for (int p : Look.outside(0, 7)) {
            s.is("PERSON " + p, x.knows(p, 0), Look.UNKNOWN);
        }
        for (int k : Look.outside(0, 2)) {
            s.is("NEWS " + k, x.knows(0, k), Look.UNKNOWN);
        }
        x.set(0, 2, 2);
        s.is("NEWS 2 of 2", x.knows(0, 2), Look.UNKNOWN);
        s.is("NEWS 1 of 2", x.knows(0, 1), 0);
    }

    private static void last() {
        s.of("`int last(int news)`: LAST of a piece of NEWS. UNKNOWN.");
        LateLetters x = Due.told(Look.star(3, 8));
        for (int k = 0; k < 3; k++) {
            s.is("NEWS " + k, x.last(k), 7 * (k + 1));
        }
        for (int k : Look.outside(0, 2)) {
            s.is("NEWS " + k, x.last(k), Look.UNKNOWN);
        }
        x.set(0, 2, 1);
        s.is("NEWS 0 of 1", x.last(0), 7);
        s.is("NEWS 1 of 1", x.last(1), Look.UNKNOWN);
    }

    private static void move() {
        s.of("MOVED: LAST then. UNKNOWN: person (but 0), teller; LATE: it is its TELLER, itself, or one that it tells.");
        LateLetters x = Due.told(Look.FOUR);
        for (int p : Look.outside(1, 3)) {
            s.is("PERSON " + p, x.move(p, 0), Look.UNKNOWN);
        }
        for (int q : Look.outside(0, 3)) {
            s.is("TELLER " + q, x.move(3, q), Look.UNKNOWN);
        }
        s.is("PERSON 0", x.move(0, 2), Look.UNKNOWN);
        s.is("its TELLER", x.move(3, 1), Look.LATE);
        s.is("its TELLER, 0", x.move(2, 0), Look.LATE);
        s.is("itself", x.move(3, 3), Look.LATE);
        s.is("one that it tells", x.move(1, 3), Look.LATE);
        s.is("no ACTS so far", x.about(6), 0);
        s.is("MOVED", x.move(3, 2), 13);
        s.is("back", x.move(3, 1), 9);
        s.is("of one", new LateLetters().move(0, 0), Look.UNKNOWN);
        s.is("of two", Due.told("T121111t10").move(1, 0), Look.LATE);
    }

    private static void change() {
        s.of("CHANGED: LAST then. UNKNOWN: there is no i-th or no next one; LATE: the next one's TELLER is the i-th.");
        LateLetters x = Due.told(Look.FOUR);
        for (int i : Look.outside(0, 1)) {
            s.is("at " + i, x.change(i), Look.UNKNOWN);
        }
        s.is("no ACTS so far", x.about(6), 0);
        s.is("at 0", x.change(0), 10);
        s.is("at 1", x.change(1), Look.LATE);
        s.is("one ACT", x.about(6), 1);
        s.is("of one", new LateLetters().change(0), Look.UNKNOWN);
        s.is("of two", Due.told("T121111t10").change(0), Look.UNKNOWN);
        s.is("of three", Due.told("T13121111t10t20").change(0), 3);
    }

    private static void quicken() {
        s.of("`int quicken()`: QUICKENED: LAST then.");
        LateLetters one = new LateLetters();
        s.is("of one", one.quicken(), 0);
        s.is("an ACT of one", one.about(6), 1);
        s.is("undone of one", one.undo(), 0);
        s.is("of two", Due.told("T329511t10").quicken(), 19);
        LateLetters x = Due.told(Look.EIGHT);
        s.is("of 8", x.quicken(), 13);
        s.is("an ACT", x.about(6), 1);
        s.is("once more", x.quicken(), 13);
        s.is("an ACT, too", x.about(6), 2);
    }

    private static void set() {
        s.of("SET: DELAY (what = 0), GAP (1) of a PERSON, m (2; the PERSON is 0) is v: what it was. UNKNOWN: person; BAD: what (2, too, of another PERSON than 0), v.");
        int[] most = {9, 5, 3};
        for (int what = 0; what < 3; what++) {
            LateLetters x = Due.told(Look.star(1, 8));
            s.is("the greatest", x.set(0, what, most[what]), 1);
            s.is("the least", x.set(0, what, 1), most[what]);
            s.is("as it is", x.set(0, what, 1), 1);
            for (int v : Look.outside(1, most[what])) {
                s.is("v " + v, x.set(0, what, v), Look.BAD);
            }
            for (int p : Look.outside(0, 7)) {
                s.is("PERSON " + p, x.set(p, what, 1), Look.UNKNOWN);
            }
            s.is("ACTS", x.about(6), 3);
            s.is("of the last PERSON", x.set(7, what, 1), what == 2 ? Look.BAD : 1);
        }
        LateLetters y = Due.told(Look.star(1, 8));
        for (int what : Look.outside(0, 2)) {
            s.is("what " + what, y.set(0, what, 1), Look.BAD);
        }
        for (int p = 1; p < 8; p++) {
            s.is("m of " + p, y.set(p, 2, 1), Look.BAD);
        }
        s.is("no ACTS", y.about(6), 0);
    }

    private static void undo() {
        s.of("The last ACT is undone: how many are left. LATE: there is none.");
        LateLetters x = new LateLetters();
        s.is("none", x.undo(), Look.LATE);
        x.set(0, 0, 2);
        s.is("the only one", x.undo(), 0);
        s.is("none then", x.undo(), Look.LATE);
        for (int many = 13; many <= 15; many++) {
            LateLetters y = new LateLetters();
            for (int i = 0; i < many; i++) {
                y.set(0, 1, 1 + i % 5);
            }
            for (int left = Math.min(many, 14) - 1; left >= 0; left--) {
                s.is("of " + many, y.undo(), left);
            }
            s.is("none of " + many, y.undo(), Look.LATE);
        }
        LateLetters z = Due.told(Look.FOUR);
        z.set(0, 0, 9);
        z.keep(0);
        z.again(0);
        s.is("none when one goes on", z.undo(), Look.LATE);
        z.set(0, 0, 8);
        s.is("but then again", z.undo(), 0);
        s.is("as it was kept", z.person(0, 0), 9);
    }

    private static void number() {
        s.of("NUMBERS by TICK t, as PERSON p. UNKNOWN: person; BAD: t.");
        LateLetters x = Due.told(Look.EIGHT);
        for (int p = 0; p < 8; p++) {
            s.is("by 0, as " + p, x.number(p, 0), 1);
            s.holds("by 60, as " + p, x.number(p, 60) > 1);
        }
        for (int t : Look.outside(0, 60)) {
            s.is("t " + t, x.number(7, t), Look.BAD);
        }
        for (int p : Look.outside(0, 7)) {
            s.is("PERSON " + p, x.number(p, 0), Look.UNKNOWN);
        }
    }

    private static void soon() {
        s.of("`int soon(int person, int v)`: SOON; NONE. UNKNOWN: person; BAD: v.");
        LateLetters x = Due.told(Look.EIGHT);
        for (int p = 0; p < 8; p++) {
            s.is("1, as " + p, x.soon(p, 1), 0);
            s.is("2, as " + p, x.soon(p, 2), x.person(p, 0));
        }
        s.is("99999 as 7 (9, 4)", x.soon(7, 99999), Look.NONE);
        for (int v : Look.outside(1, 99999)) {
            s.is("v " + v, x.soon(7, v), Look.BAD);
        }
        for (int p : Look.outside(0, 7)) {
            s.is("PERSON " + p, x.soon(p, 1), Look.UNKNOWN);
        }
    }

    private static void knowers() {
        s.of("KNOWERS. UNKNOWN: news; BAD: t (0 .. 999).");
        LateLetters x = Due.told(Look.EIGHT);
        for (int k = 0; k < 3; k++) {
            s.is("by 0", x.knowers(k, 0), 1);
            s.is("by 999", x.knowers(k, 999), 255);
        }
        s.is("by 22", x.knowers(2, 22), 247);
        s.is("by 23", x.knowers(2, 23), 255);
        for (int t : Look.outside(0, 999)) {
            s.is("t " + t, x.knowers(0, t), Look.BAD);
        }
        for (int k : Look.outside(0, 2)) {
            s.is("NEWS " + k, x.knowers(k, 0), Look.UNKNOWN);
        }
    }

    private static void judge() {
        s.of("JUDGED; NONE. BAD: n, row (0 or more, 3 n figures at most).");
        LateLetters x = Due.told(Look.FOUR);
        long most = 1;
        for (int n = 1; n <= 4; n++) {
            most *= 1000;
            s.is("row 0", x.judge(n, 0), 0);
            s.is("row " + (most - 1), x.judge(n, most - 1), 0);
            s.is("row " + most, x.judge(n, most), Look.BAD);
            s.is("row -1", x.judge(n, -1), Look.BAD);
            s.is("row -300", x.judge(n, -300), Look.BAD);
            s.is("the least row", x.judge(n, Long.MIN_VALUE), Look.BAD);
            s.is("the greatest row", x.judge(n, Long.MAX_VALUE), Look.BAD);
            s.is("row of 32 bits more", x.judge(n, (1L << 62) + 509), Look.BAD);
        }
        s.is("row of 32 bits more, 1", x.judge(1, (1L << 32) + 509), Look.BAD);
        for (int n : Look.outside(1, 4)) {
            s.is("n " + n, x.judge(n, 509), Look.BAD);
            s.is("n " + n + ", row 0", x.judge(n, 0), Look.BAD);
        }
        s.is("so", x.judge(1, 509), Look.NONE);
    }

    private static void see() {
        s.of("SEEN: how many there are. UNKNOWN: person; BAD: t; FULL: 6.");
        LateLetters x = Due.told(Look.EIGHT);
        for (int t : Look.outside(0, 99)) {
            s.is("t " + t, x.see(0, t), Look.BAD);
        }
        for (int p : Look.outside(0, 7)) {
            s.is("PERSON " + p, x.see(p, 0), Look.UNKNOWN);
        }
        s.is("none so far", x.about(7), 0);
        for (int i = 1; i <= 6; i++) {
            s.is("the next", x.see(i % 2 * 7, i % 2 * 99), i);
        }
        s.is("the 7th", x.see(0, 0), Look.FULL);
        s.is("the 7th, the same as one", x.see(7, 99), Look.FULL);
        s.is("BAD ahead of FULL", x.see(0, 100), Look.BAD);
        s.is("UNKNOWN ahead of FULL", x.see(8, 0), Look.UNKNOWN);
    }

    private static void unsee() {
        s.of("Nothing is SEEN: how much there was.");
        LateLetters x = new LateLetters();
        for (int many = 0; many <= 6; many++) {
            for (int i = 0; i < many; i++) {
                x.see(0, 50);
            }
            s.is("of " + many, x.unsee(), many);
            s.is("then", x.about(7), 0);
            s.is("nothing that is not so", x.which(0), 1022);
            s.is("once more", x.unsee(), 0);
        }
        for (int i = 0; i < 7; i++) {
            x.see(0, 0);
        }
        s.is("of 7", x.unsee(), 6);
        s.is("not FULL then", x.see(0, 0), 1);
    }

    private static void which() {
        s.of("`int which(int person)`: WHICH. UNKNOWN.");
        LateLetters x = Due.told(Look.EIGHT);
        for (int p = 0; p < 8; p++) {
            s.is("PERSON " + p, x.which(p), 1022);
        }
        for (int p : Look.outside(0, 7)) {
            s.is("PERSON " + p, x.which(p), Look.UNKNOWN);
        }
        s.is("of one", new LateLetters().which(0), 1022);
        s.is("1 of one", new LateLetters().which(1), Look.UNKNOWN);
    }

    private static void share() {
        s.of("`int share(int person, boolean upper)`: SHARE. UNKNOWN.");
        LateLetters x = Due.told("T189191919191919191t10t21t32t43t54t65t76");
        for (int p = 0; p < 8; p++) {
            s.is("above", x.share(p, true), p == 7 ? 0 : 8);
            s.is("below", x.share(p, false), 1);
        }
        for (int p : Look.outside(0, 7)) {
            s.is("PERSON " + p, x.share(p, true), Look.UNKNOWN);
            s.is("PERSON " + p + ", below", x.share(p, false), Look.UNKNOWN);
        }
        s.is("of one", new LateLetters().share(0, true), 0);
        s.is("of one, below", new LateLetters().share(0, false), 1);
    }

    private static void chance() {
        s.of("CHANCE. BAD: v, x.");
        LateLetters x = Due.told(Look.EIGHT);
        s.is("the least v", x.chance(0, 5, true), 1);
        s.is("the greatest v", x.chance(8, 5, false), 128);
        s.is("the least x", x.chance(8, 0, true), 1);
        s.is("the greatest x", x.chance(2, 10, true), 0);
        s.is("the greatest x, below", x.chance(2, 10, false), 1);
        for (int v : Look.outside(0, 8)) {
            s.is("v " + v, x.chance(v, 0, true), Look.BAD);
            s.is("v " + v + ", below", x.chance(v, 10, false), Look.BAD);
        }
        for (int lost : Look.outside(0, 10)) {
            s.is("x " + lost, x.chance(0, lost, true), Look.BAD);
            s.is("x " + lost + ", below", x.chance(8, lost, false), Look.BAD);
        }
    }

    private static void seed() {
        s.of("THE SEED is v: what it was.");
        LateLetters x = new LateLetters();
        long was = 0;
        for (long v : new long[] {1, -1, Long.MIN_VALUE, Long.MAX_VALUE, 1L << 32, 1L << 31, 0}) {
            s.is("ahead of " + v, x.seed(v), was);
            was = v;
        }
        s.is("0", x.seed(0), 0);
    }

    private static void drawn() {
        s.of("DRAWN. BAD: m.");
        LateLetters x = Due.told(Look.EIGHT);
        s.holds("1", x.drawn(1) > 0);
        s.holds("40", x.drawn(40) > 0);
        x.seed(5);
        for (int m : Look.outside(1, 40)) {
            s.is("m " + m, x.drawn(m), Look.BAD);
        }
        s.is("THE SEED stays", x.seed(0), 5);
    }

    private static void keep() {
        s.of("They are kept: LAST. UNKNOWN.");
        LateLetters x = Due.told(Look.EIGHT);
        s.is("SLOT 0", x.keep(0), 23);
        s.is("SLOT 1", x.keep(1), 23);
        for (int slot : Look.outside(0, 1)) {
            s.is("SLOT " + slot, x.keep(slot), Look.UNKNOWN);
        }
        x.quicken();
        s.is("SLOT 1 anew", x.keep(1), 13);
        s.is("SLOT 0 as it was", x.again(0), 23);
        s.is("SLOT 1 as it is", x.again(1), 13);
        x.set(0, 0, 9);
        x.keep(0);
        s.is("ACTS stay", x.about(6), 1);
        s.is("and can be undone", x.undo(), 0);
        s.is("so that it is as it was", x.person(0, 0), 2);
        s.is("of one", new LateLetters().keep(0), 0);
    }

    private static void again() {
        s.of("They are as they were kept: LAST. UNKNOWN; LATE: none were kept.");
        LateLetters x = Due.told(Look.EIGHT);
        s.is("none in SLOT 0", x.again(0), Look.LATE);
        s.is("none in SLOT 1", x.again(1), Look.LATE);
        x.keep(1);
        s.is("none in SLOT 0 yet", x.again(0), Look.LATE);
        x.quicken();
        s.is("SLOT 1", x.again(1), 23);
        x.quicken();
        s.is("SLOT 1 once more", x.again(1), 23);
        s.same("THE PLAN", Look.plan(x), Look.row(20, 72, 10, 37, 40, 51, 64));
        for (int slot : Look.outside(0, 1)) {
            s.is("SLOT " + slot, x.again(slot), Look.UNKNOWN);
        }
        x.telling();
        s.is("none in SLOT 1 behind telling", x.again(1), Look.LATE);
    }
}
