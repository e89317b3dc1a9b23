import java.io.IOException;
import java.util.ArrayList;
import java.util.List;

/**
 * The document's part 5, REFUSALS: their row, and that what is refused (and what is only asked) changes nothing. Of two
 * objects alike one gets the call and the other does not; then all that can be seen of both is seen, to the last ACT.
 */
public final class RefusalsEdgeTest {
    /** A call, with the answer that is due. */
    private record Call(String name, On on, long due) {
    }

    private interface On {
        long call(LateLetters x);
    }

    private interface Made {
        LateLetters make();
    }

    private static Sentences s;

    public static void main(String[] args) throws IOException {
        s = new Sentences("RefusalsEdgeTest");
        firstNamed();
        unknown();
        refusedChangesNothing();
        askedChangesNothing();
        none();
        fractions();
        sets();
        s.end();
    }

    // ---- three objects: new, with all that it can hold, and in between

    private static LateLetters fresh() {
        return new LateLetters();
    }

    /** 8 PEOPLE, 14 ACTS (with more forgotten), 6 SEEN, both SLOTS, a full TEXT with a FAULT, a SEED. */
    private static LateLetters full() {
        LateLetters x = Due.told(Look.EIGHT);
        for (int i = 0; i < 9; i++) {
            x.set(i % 8, i % 2, 1 + i % 5);
        }
        x.keep(0);
        x.quicken();
        x.move(7, 4);
        x.move(5, 7);
        x.change(0);
        x.set(0, 2, 2);
        x.keep(1);
        x.set(2, 0, 9);
        x.move(3, 1);
        for (int i = 0; i < 6; i++) {
            x.see(i + 2, x.knows(i + 2, 0));
        }
        x.seed(77);
        Due.write(x, Look.times("t", 20));
        return x;
    }

    /** 3 PEOPLE, 2 ACTS, 1 SEEN, SLOT 1 alone; THE TEXT is another TELLING. */
    private static LateLetters between() {
        LateLetters x = Due.told("T23214151t10t21");
        x.keep(1);
        x.set(1, 1, 3);
        x.move(2, 0);
        x.see(2, 3);
        x.seed(-5);
        x.wipe();
        Due.write(x, Look.FOUR);
        return x;
    }

    // ---- all that can be seen

    private static void look(LateLetters x, List<Long> seen) {
        for (int what = 0; what < 9; what++) {
            seen.add((long) x.about(what));
        }
        for (int p = 0; p < x.about(0); p++) {
            for (int what = 0; what < 7; what++) {
                seen.add((long) x.person(p, what));
            }
            seen.add((long) x.plan(p));
            seen.add((long) x.which(p));
            seen.add((long) x.knows(p, 0));
        }
        seen.add((long) x.fault());
    }

    private static void shortLook(LateLetters x, List<Long> seen) {
        seen.add((long) x.about(1));
        seen.add((long) x.about(2));
        seen.add((long) x.about(3));
        for (int i = 0; i < 7; i++) {
            seen.add((long) x.plan(i));
        }
    }

    /** The object is used up by it. */
    private static long[] allOf(LateLetters x) {
        List<Long> seen = new ArrayList<>();
        look(x, seen);
        for (int i = 0; i < 15; i++) {
            seen.add((long) x.undo());
            shortLook(x, seen);
        }
        for (int slot = 0; slot < 2; slot++) {
            seen.add((long) x.again(slot));
            shortLook(x, seen);
        }
        seen.add((long) x.telling());
        shortLook(x, seen);
        seen.add((long) x.see(0, 0));
        seen.add((long) x.unsee());
        seen.add((long) x.wipe());
        seen.add(x.seed(0));
        // Some 100 calls made the object, some 20 more are not noted.
        s.holds("not more than 512 calls", seen.size() + 150 < 512);
        return seen.stream().mapToLong(Long::longValue).toArray();
    }

    private static void changesNothing(Made made, List<Call> calls) {
        long[] due = allOf(made.make());
        for (Call call : calls) {
            LateLetters x = made.make();
            s.is(call.name, call.on.call(x), call.due);
            s.same("behind " + call.name, allOf(x), due);
        }
    }

    // ---- the row of refusals

    private static void firstNamed() {
        s.of("REFUSALS, of several the first that a call names (in just that row)");
        LateLetters x = full();
        s.is("write: BAD, FULL", x.write(256), Look.BAD);
        s.is("write: BAD, FULL", x.write(-1), Look.BAD);
        s.is("write: FULL", x.write(0), Look.FULL);
        s.is("person: UNKNOWN, BAD", x.person(8, 7), Look.UNKNOWN);
        s.is("person: UNKNOWN, BAD", x.person(-1, -1), Look.UNKNOWN);
        s.is("knows: UNKNOWN both", x.knows(8, 3), Look.UNKNOWN);
        s.is("move: UNKNOWN, LATE: PERSON 0 by itself", x.move(0, 0), Look.UNKNOWN);
        s.is("move: UNKNOWN, LATE: PERSON 0 by one that it tells", x.move(0, 4), Look.UNKNOWN);
        s.is("move: UNKNOWN, LATE: no PERSON by itself", x.move(8, 8), Look.UNKNOWN);
        s.is("move: UNKNOWN, LATE: less than 0 by itself", x.move(-1, -1), Look.UNKNOWN);
        s.is("set: UNKNOWN, BAD what", x.set(8, 3, 1), Look.UNKNOWN);
        s.is("set: UNKNOWN, BAD what", x.set(-1, -1, 1), Look.UNKNOWN);
        s.is("set: UNKNOWN, BAD v", x.set(8, 0, 10), Look.UNKNOWN);
        s.is("set: UNKNOWN, BAD v", x.set(8, 1, 0), Look.UNKNOWN);
        s.is("set: UNKNOWN, BAD v", x.set(-1, 2, 4), Look.UNKNOWN);
        s.is("set: UNKNOWN, m of another", x.set(8, 2, 1), Look.UNKNOWN);
        s.is("set: BAD what, BAD v", x.set(1, 2, 4), Look.BAD);
        s.is("number: UNKNOWN, BAD", x.number(8, 61), Look.UNKNOWN);
        s.is("number: UNKNOWN, BAD", x.number(-1, -1), Look.UNKNOWN);
        s.is("soon: UNKNOWN, BAD", x.soon(8, 0), Look.UNKNOWN);
        s.is("soon: UNKNOWN, BAD", x.soon(-1, 100000), Look.UNKNOWN);
        s.is("knowers: UNKNOWN, BAD", x.knowers(3, 1000), Look.UNKNOWN);
        s.is("knowers: UNKNOWN, BAD", x.knowers(-1, -1), Look.UNKNOWN);
        s.is("see: UNKNOWN, BAD, FULL", x.see(8, 100), Look.UNKNOWN);
        s.is("see: UNKNOWN, FULL", x.see(-1, 0), Look.UNKNOWN);
        s.is("see: BAD, FULL", x.see(0, 100), Look.BAD);
        s.is("see: BAD, FULL", x.see(0, -1), Look.BAD);
        s.is("see: FULL", x.see(0, 0), Look.FULL);
        LateLetters y = fresh();
        s.is("again: UNKNOWN, LATE", y.again(2), Look.UNKNOWN);
        s.is("again: UNKNOWN, LATE", y.again(-1), Look.UNKNOWN);
        s.is("again: LATE", y.again(0), Look.LATE);
        s.is("change: UNKNOWN", y.change(0), Look.UNKNOWN);
    }

    private static void unknown() {
        s.of("UNKNOWN -1 (there is no such PERSON, piece of NEWS, place in THE PLAN, SLOT), BAD -2, LATE -3, FULL -4.");
        s.is("UNKNOWN", LateLetters.UNKNOWN, -1);
        s.is("BAD", LateLetters.BAD, -2);
        s.is("LATE", LateLetters.LATE, -3);
        s.is("FULL", LateLetters.FULL, -4);
        for (int n = 1; n <= 8; n++) {
            for (int no : Look.outside(0, n - 1)) {
                LateLetters x = Due.told(Look.star(1, n));
                s.is("person " + no, x.person(no, 0), -1);
                s.is("knows " + no, x.knows(no, 0), -1);
                s.is("move " + no, x.move(no, 0), -1);
                s.is("move to " + no, x.move(n - 1, no), -1);
                s.is("set " + no, x.set(no, 0, 1), -1);
                s.is("number " + no, x.number(no, 0), -1);
                s.is("soon " + no, x.soon(no, 1), -1);
                s.is("see " + no, x.see(no, 0), -1);
                s.is("which " + no, x.which(no), -1);
                s.is("share " + no, x.share(no, true), -1);
                s.is("share, below, " + no, x.share(no, false), -1);
            }
            for (int no : Look.outside(0, n - 2)) {
                s.is("place " + no + " of " + n, Due.told(Look.star(1, n)).plan(no), -1);
            }
            for (int no : Look.outside(0, n - 3)) {
                s.is("change at " + no + " of " + n, Due.told(Look.star(1, n)).change(no), -1);
            }
        }
        for (int m = 1; m <= 3; m++) {
            LateLetters x = Due.told(Look.star(m, 3));
            for (int no : Look.outside(0, m - 1)) {
                s.is("knows NEWS " + no, x.knows(0, no), -1);
                s.is("last of NEWS " + no, x.last(no), -1);
                s.is("knowers of NEWS " + no, x.knowers(no, 0), -1);
            }
        }
        for (int no : Look.outside(0, 1)) {
            s.is("keep " + no, fresh().keep(no), -1);
            s.is("again " + no, full().again(no), -1);
        }
    }

    // ---- what changes nothing

    private static void add(List<Call> calls, String name, On on, long due) {
        calls.add(new Call(name, on, due));
    }

    /** What any object refuses. */
    private static List<Call> refusedByAny() {
        List<Call> calls = new ArrayList<>();
        add(calls, "write(-1)", x -> x.write(-1), Look.BAD);
        add(calls, "write(256)", x -> x.write(256), Look.BAD);
        add(calls, "about(9)", x -> x.about(9), Look.BAD);
        add(calls, "about(-1)", x -> x.about(-1), Look.BAD);
        add(calls, "person(8, 0)", x -> x.person(8, 0), Look.UNKNOWN);
        add(calls, "person(0, 7)", x -> x.person(0, 7), Look.BAD);
        add(calls, "plan(7)", x -> x.plan(7), Look.UNKNOWN);
        add(calls, "knows(8, 0)", x -> x.knows(8, 0), Look.UNKNOWN);
        add(calls, "knows(0, 3)", x -> x.knows(0, 3), Look.UNKNOWN);
        add(calls, "last(3)", x -> x.last(3), Look.UNKNOWN);
        add(calls, "move(0, 0)", x -> x.move(0, 0), Look.UNKNOWN);
        add(calls, "move(8, 0)", x -> x.move(8, 0), Look.UNKNOWN);
        add(calls, "move(1, 8)", x -> x.move(1, 8), Look.UNKNOWN);
        add(calls, "change(-1)", x -> x.change(-1), Look.UNKNOWN);
        add(calls, "change(6)", x -> x.change(6), Look.UNKNOWN);
        add(calls, "set(8, 0, 1)", x -> x.set(8, 0, 1), Look.UNKNOWN);
        add(calls, "set(0, 3, 1)", x -> x.set(0, 3, 1), Look.BAD);
        add(calls, "set(0, -1, 1)", x -> x.set(0, -1, 1), Look.BAD);
        add(calls, "set(0, 0, 0)", x -> x.set(0, 0, 0), Look.BAD);
        add(calls, "set(0, 0, 10)", x -> x.set(0, 0, 10), Look.BAD);
        add(calls, "set(0, 1, 0)", x -> x.set(0, 1, 0), Look.BAD);
        add(calls, "set(0, 1, 6)", x -> x.set(0, 1, 6), Look.BAD);
        add(calls, "set(0, 2, 0)", x -> x.set(0, 2, 0), Look.BAD);
        add(calls, "set(0, 2, 4)", x -> x.set(0, 2, 4), Look.BAD);
        add(calls, "number(0, 61)", x -> x.number(0, 61), Look.BAD);
        add(calls, "soon(0, 0)", x -> x.soon(0, 0), Look.BAD);
        add(calls, "knowers(0, 1000)", x -> x.knowers(0, 1000), Look.BAD);
        add(calls, "judge(0, 0)", x -> x.judge(0, 0), Look.BAD);
        add(calls, "judge(5, 300)", x -> x.judge(5, 300), Look.BAD);
        add(calls, "judge(1, 1000)", x -> x.judge(1, 1000), Look.BAD);
        add(calls, "judge(1, -1)", x -> x.judge(1, -1), Look.BAD);
        add(calls, "see(8, 0)", x -> x.see(8, 0), Look.UNKNOWN);
        add(calls, "see(0, 100)", x -> x.see(0, 100), Look.BAD);
        add(calls, "which(8)", x -> x.which(8), Look.UNKNOWN);
        add(calls, "share(8, true)", x -> x.share(8, true), Look.UNKNOWN);
        add(calls, "chance(9, 0, true)", x -> x.chance(9, 0, true), Look.BAD);
        add(calls, "chance(0, 11, true)", x -> x.chance(0, 11, true), Look.BAD);
        add(calls, "drawn(0)", x -> x.drawn(0), Look.BAD);
        add(calls, "drawn(41)", x -> x.drawn(41), Look.BAD);
        add(calls, "keep(2)", x -> x.keep(2), Look.UNKNOWN);
        add(calls, "keep(-1)", x -> x.keep(-1), Look.UNKNOWN);
        add(calls, "again(2)", x -> x.again(2), Look.UNKNOWN);
        return calls;
    }

    private static void refusedChangesNothing() {
        s.of("What is refused changes nothing.");
        List<Call> ofNew = refusedByAny();
        add(ofNew, "telling()", x -> x.telling(), Look.LATE);
        add(ofNew, "undo()", x -> x.undo(), Look.LATE);
        add(ofNew, "again(0)", x -> x.again(0), Look.LATE);
        add(ofNew, "again(1)", x -> x.again(1), Look.LATE);
        add(ofNew, "move(1, 0)", x -> x.move(1, 0), Look.UNKNOWN);
        changesNothing(RefusalsEdgeTest::fresh, ofNew);
        List<Call> ofFull = refusedByAny();
        add(ofFull, "write('T')", x -> x.write('T'), Look.FULL);
        add(ofFull, "telling()", x -> x.telling(), Look.LATE);
        add(ofFull, "about(4)", x -> x.about(4), Look.LATE);
        add(ofFull, "move(7, 4)", x -> x.move(7, 4), Look.LATE);
        add(ofFull, "move(7, 7)", x -> x.move(7, 7), Look.LATE);
        add(ofFull, "move(4, 5)", x -> x.move(4, 5), Look.LATE);
        add(ofFull, "set(1, 2, 1)", x -> x.set(1, 2, 1), Look.BAD);
        add(ofFull, "see(0, 0)", x -> x.see(0, 0), Look.FULL);
        changesNothing(RefusalsEdgeTest::full, ofFull);
        List<Call> ofBetween = refusedByAny();
        add(ofBetween, "again(0)", x -> x.again(0), Look.LATE);
        add(ofBetween, "move(2, 0)", x -> x.move(2, 0), Look.LATE);
        add(ofBetween, "move(1, 1)", x -> x.move(1, 1), Look.LATE);
        add(ofBetween, "change(1)", x -> x.change(1), Look.UNKNOWN);
        add(ofBetween, "set(2, 2, 1)", x -> x.set(2, 2, 1), Look.BAD);
        changesNothing(RefusalsEdgeTest::between, ofBetween);
        List<Call> ofChain = new ArrayList<>();
        add(ofChain, "change(0)", x -> x.change(0), Look.LATE);
        add(ofChain, "move(1, 7)", x -> x.move(1, 7), Look.LATE);
        changesNothing(RefusalsEdgeTest::chain, ofChain);
    }

    private static LateLetters chain() {
        return Due.told(Look.CHAIN);
    }

    /** What is only asked, with the answer that an object alike gives. */
    private static void asked(Made made, String name, On on) {
        List<Call> calls = new ArrayList<>();
        add(calls, name, on, on.call(made.make()));
        changesNothing(made, calls);
    }

    private static void askedChangesNothing() {
        s.of("In what follows nothing is changed.");
        Made[] made = {RefusalsEdgeTest::fresh, RefusalsEdgeTest::full, RefusalsEdgeTest::between, RefusalsEdgeTest::chain};
        for (Made one : made) {
            for (int what = 0; what < 9; what++) {
                int about = what;
                asked(one, "about(" + what + ")", x -> x.about(about));
            }
            for (int what = 0; what < 7; what++) {
                int of = what;
                asked(one, "person(0, " + what + ")", x -> x.person(0, of));
            }
            asked(one, "fault()", x -> x.fault());
            asked(one, "number(0, 60)", x -> x.number(0, 60));
            asked(one, "soon(0, 99999)", x -> x.soon(0, 99999));
            asked(one, "knowers(0, 999)", x -> x.knowers(0, 999));
            asked(one, "judge(4, 300409300500)", x -> x.judge(4, 300409300500L));
            asked(one, "judge(4, 120200300409)", x -> x.judge(4, 120200300409L));
            asked(one, "which(0)", x -> x.which(0));
            asked(one, "share(0, true)", x -> x.share(0, true));
            asked(one, "share(0, false)", x -> x.share(0, false));
            asked(one, "chance(2, 3, true)", x -> x.chance(2, 3, true));
            asked(one, "drawn(40), THE SEED told anew", RefusalsEdgeTest::drawnAndBack);
        }
    }

    private static long drawnAndBack(LateLetters x) {
        long seed = x.seed(1);
        long drawn = x.drawn(40);
        x.seed(seed);
        return drawn;
    }

    private static void none() {
        s.of("NONE is -9.");
        s.is("NONE", LateLetters.NONE, -9);
        LateLetters x = fresh();
        s.is("TELLER of PERSON 0", x.person(0, 2), -9);
        s.is("place of PERSON 0", x.person(0, 3), -9);
        s.is("GATHERED from PERSON 0", x.person(0, 6), -9);
        s.is("nothing that can not be", x.judge(1, 500), -9);
        x.set(0, 0, 9);
        s.is("not SOON", x.soon(0, 99999), -9);
        Due.write(x, "T1111");
        s.is("no FAULT", x.fault(), -9);
    }

    private static void fractions() {
        s.of("FRACTIONS are told above (upper = true; less than 0, if they are), below, in least terms.");
        LateLetters x = Due.told("T151141211111t10t20t31t42");
        s.is("3 halves, above", x.share(1, true), 3);
        s.is("3 halves, below", x.share(1, false), 2);
        s.is("nothing, above", x.share(3, true), 0);
        s.is("nothing, below", x.share(3, false), 1);
        LateLetters y = Due.told("T13111111t10t21");
        int[][] due = {{5, 1, 4}, {2, 16, 25}, {4, 9, 25}, {1, 81, 100}, {0, 1, 1}, {10, 0, 1}, {8, 1, 25}};
        for (int[] one : due) {
            s.is(one[0] + " tenths, above", y.chance(3, one[0], true), one[1]);
            s.is(one[0] + " tenths, below", y.chance(3, one[0], false), one[2]);
        }
    }

    private static void sets() {
        s.of("Sets are told as bits.");
        LateLetters x = Due.told(Look.star(1, 8));
        for (int t = 0; t <= 7; t++) {
            s.is("KNOWERS by " + t, x.knowers(0, t), (2 << t) - 1);
        }
        s.is("all DELAYS, bits 1 .. 9", x.which(0), 0b1111111110);
        x.see(1, 1);
        s.is("DELAY 1 alone", x.which(0), 0b10);
        x.unsee();
        x.see(1, 9);
        s.is("DELAY 9 alone", x.which(0), 0b1000000000);
    }
}
