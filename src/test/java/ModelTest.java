import java.util.ArrayList;
import java.util.Collections;
import java.util.List;
import java.util.Random;

/** Runs of calls by chance (each run by its own seed, so always the same), against the slow model. */
public final class ModelTest {
    private static final int[] ODD = {
        Integer.MIN_VALUE, Integer.MIN_VALUE + 1, -1000, -9, -2, -1, 9, 10, 11, 14, 40, 41, 60, 61, 99, 100, 255, 256,
        999, 1000, 99999, 100000, 1 << 16, 1 << 30, Integer.MAX_VALUE - 1, Integer.MAX_VALUE
    };

    private final Due due = new Due("ModelTest");
    private Random random;
    private LateLetters x;
    private Model y;
    private int run;

    public static void main(String[] args) {
        ModelTest test = new ModelTest();
        for (int run = 1; run <= 1500 && test.due.wrong() == 0; run++) {
            test.run(run);
        }
        test.due.end();
    }

    private void run(int number) {
        run = number;
        random = new Random(number);
        x = new LateLetters();
        y = new Model();
        int calls = 0;
        if (random.nextInt(8) != 0) {
            calls += tell(aTelling(), true);
        }
        while (calls < 330) {
            calls += call();
            if (random.nextInt(6) == 0) {
                calls += cheapLook();
            }
        }
    }

    private void same(String call, long got, long want) {
        due.is("run " + run + ": " + call, got, want);
    }

    private int upTo(int most) {
        return random.nextInt(30) == 0 ? ODD[random.nextInt(ODD.length)] : random.nextInt(most + 1);
    }

    private int aPerson() {
        return random.nextInt(12) == 0 ? upTo(9) : random.nextInt(y.now.n());
    }

    private String aTelling() {
        int n = 1 + random.nextInt(8);
        StringBuilder b = new StringBuilder("T").append(1 + random.nextInt(3)).append(n);
        int mostDelay = 1 + random.nextInt(9);
        int mostGap = 1 + random.nextInt(5);
        for (int p = 0; p < n; p++) {
            b.append(1 + random.nextInt(mostDelay)).append(1 + random.nextInt(mostGap));
        }
        List<Integer> row = new ArrayList<>();
        for (int p = 1; p < n; p++) {
            row.add(p);
        }
        Collections.shuffle(row, random);
        boolean deep = random.nextBoolean();
        for (int i = 0; i < row.size(); i++) {
            int from = deep ? Math.max(-1, i - 1 - random.nextInt(2)) : random.nextInt(i + 1) - 1;
            b.append('t').append(row.get(i)).append(from < 0 ? 0 : row.get(from));
        }
        return b.toString();
    }

    /** A TELLING with some letter changed, left out, doubled, or its end cut off. */
    private String spoilt(String text) {
        StringBuilder b = new StringBuilder(text);
        for (int i = random.nextInt(3); i >= 0 && b.length() > 0; i--) {
            int at = random.nextInt(b.length());
            switch (random.nextInt(5)) {
                case 0: b.setCharAt(at, "Tt0123456789".charAt(random.nextInt(12))); break;
                case 1: b.deleteCharAt(at); break;
                case 2: b.insert(at, b.charAt(at)); break;
                case 3: b.setLength(at); break;
                default: b.append("t10").setCharAt(at, (char) random.nextInt(256)); break;
            }
        }
        return b.toString();
    }

    private int tell(String text, boolean asTelling) {
        same("wipe()", x.wipe(), y.wipe());
        for (int i = 0; i < text.length(); i++) {
            same("write(" + (int) text.charAt(i) + ")", x.write(text.charAt(i)), y.write(text.charAt(i)));
            if (random.nextInt(9) == 0) {
                same("fault() in " + y.text, x.fault(), y.fault());
            }
        }
        same("fault() in " + y.text, x.fault(), y.fault());
        if (asTelling) {
            same("telling() by " + y.text, x.telling(), y.telling());
        }
        return text.length() + 5;
    }

    private int cheapLook() {
        int calls = 0;
        for (int p = 0; p < y.now.n(); p++) {
            int k = random.nextInt(4);
            same("knows(" + p + ", " + k + ")", x.knows(p, k), y.knows(p, k));
            int what = random.nextInt(7);
            same("person(" + p + ", " + what + ")", x.person(p, what), y.person(p, what));
            same("plan(" + p + ")", x.plan(p), y.plan(p));
            calls += 3;
        }
        return calls;
    }

    private int call() {
        switch (random.nextInt(26)) {
            case 0: return random.nextInt(4) == 0 ? texts() : 0;
            case 1: return about(upTo(9));
            case 2: { int p = aPerson(); int w = upTo(7); same("person(" + p + ", " + w + ")", x.person(p, w), y.person(p, w)); return 1; }
            case 3: { int i = upTo(8); same("plan(" + i + ")", x.plan(i), y.plan(i)); return 1; }
            case 4: { int p = aPerson(); int k = upTo(3); same("knows(" + p + ", " + k + ")", x.knows(p, k), y.knows(p, k)); return 1; }
            case 5: { int k = upTo(3); same("last(" + k + ")", x.last(k), y.last(k)); return 1; }
            case 6:
            case 7: { int p = aPerson(); int q = aPerson(); same("move(" + p + ", " + q + ")", x.move(p, q), y.move(p, q)); return 1; }
            case 8:
            case 9: { int i = upTo(7); same("change(" + i + ")", x.change(i), y.change(i)); return 1; }
            case 10: if (random.nextInt(3) == 0) { same("quicken()", x.quicken(), y.quicken()); return 1; } return 0;
            case 11:
            case 12: return set();
            case 13: { int many = random.nextInt(12) == 0 ? 16 : 1; for (int i = 0; i < many; i++) { same("undo()", x.undo(), y.undo()); } return many; }
            case 14: { int p = aPerson(); int t = upTo(61); same("number(" + p + ", " + t + ")", x.number(p, t), y.number(p, t)); return 1; }
            case 15: { int p = aPerson(); int v = random.nextBoolean() ? upTo(50) : upTo(100000); same("soon(" + p + ", " + v + ")", x.soon(p, v), y.soon(p, v)); return 1; }
            case 16: { int k = upTo(3); int t = upTo(30); same("knowers(" + k + ", " + t + ")", x.knowers(k, t), y.knowers(k, t)); return 1; }
            case 17:
            case 18: return judge();
            case 19: return see();
            case 20: { int p = aPerson(); same("which(" + p + ")", x.which(p), y.which(p)); return 1; }
            case 21: return share();
            case 22: { int v = upTo(9); int l = upTo(11); boolean u = random.nextBoolean(); same("chance(" + v + ", " + l + ", " + u + ")", x.chance(v, l, u), y.chance(v, l, u)); return 1; }
            case 23: { long v = random.nextInt(3) == 0 ? random.nextInt(100) : random.nextLong(); same("seed(" + v + ")", x.seed(v), y.seed(v)); return 1; }
            case 24: { int m = random.nextInt(4) == 0 ? upTo(42) : upTo(4); same("drawn(" + m + ")", x.drawn(m), y.drawn(m)); return 1; }
            default: return slots();
        }
    }

    private int texts() {
        switch (random.nextInt(4)) {
            case 0: return tell(aTelling(), random.nextBoolean());
            case 1: return tell(spoilt(aTelling()), true);
            case 2: same("telling()", x.telling(), y.telling()); return 1;
            default: {
                int many = random.nextInt(70);
                for (int i = 0; i < many; i++) {
                    int letter = upTo(255);
                    same("write(" + letter + ")", x.write(letter), y.write(letter));
                }
                same("fault()", x.fault(), y.fault());
                return many + 1;
            }
        }
    }

    private int about(int what) {
        // All PLANS of 6 are gone through slowly: not each time.
        if (what == 4 && y.now.n() >= 5 && y.now.n() <= 6 && random.nextInt(y.now.n() == 6 ? 40 : 4) != 0) {
            return 0;
        }
        same("about(" + what + ")", x.about(what), y.about(what));
        return 1;
    }

    private int set() {
        int what = upTo(3);
        int p = what == 2 && random.nextInt(4) != 0 ? 0 : aPerson();
        int v = upTo(what == 0 ? 10 : what == 1 ? 6 : 4);
        same("set(" + p + ", " + what + ", " + v + ")", x.set(p, what, v), y.set(p, what, v));
        return 1;
    }

    private int judge() {
        int n = random.nextInt(15) == 0 ? upTo(6) : 1 + random.nextInt(4);
        long row = 0;
        for (int i = 0; i < n && i < 6; i++) {
            row = 1000 * row + aDoing();
        }
        if (random.nextInt(20) == 0) {
            row = random.nextBoolean() ? -row : random.nextLong() >>> random.nextInt(64);
        }
        same("judge(" + n + ", " + row + ")", x.judge(n, row), y.judge(n, row));
        return 1;
    }

    private int aDoing() {
        int p = random.nextInt(y.now.n());
        switch (random.nextInt(9)) {
            case 0: return 100 + 10 * p + random.nextInt(y.now.n());
            case 1: return 200 + random.nextInt(8);
            case 2: return 300;
            case 3: return 400 + 10 * p + random.nextInt(10);
            case 4: return 500 + Math.min(99, Model.last(y.now));
            case 5: return 600 + 10 * p + Math.min(9, Model.times(y.now)[p][0] + random.nextInt(2));
            case 6: return 700 + 10 * p + y.person(p, 4);
            case 7: return 100 + 10 * p;
            default: return random.nextInt(1000);
        }
    }

    private int see() {
        if (random.nextInt(5) == 0) {
            same("unsee()", x.unsee(), y.unsee());
            return 1;
        }
        int p = aPerson();
        int t = y.is(p) && random.nextInt(4) != 0 ? Math.min(99, y.knows(p, 0)) : upTo(100);
        same("see(" + p + ", " + t + ")", x.see(p, t), y.see(p, t));
        return 1;
    }

    private int share() {
        // All orders of 7 or 8 are gone through slowly: not each time.
        if (y.now.n() > 6 && random.nextInt(10) != 0) {
            return 0;
        }
        int p = aPerson();
        same("share(" + p + ", true)", x.share(p, true), y.share(p, true));
        same("share(" + p + ", false)", x.share(p, false), y.share(p, false));
        return 2;
    }

    private int slots() {
        int slot = upTo(2);
        if (random.nextBoolean()) {
            same("keep(" + slot + ")", x.keep(slot), y.keep(slot));
        } else {
            same("again(" + slot + ")", x.again(slot), y.again(slot));
        }
        return 1;
    }
}
