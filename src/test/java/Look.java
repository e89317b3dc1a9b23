/** What the tests of edges share: TELLINGS, what is outside of bounds, and looks at an object. */
final class Look {
    static final int UNKNOWN = -1, BAD = -2, LATE = -3, FULL = -4, NONE = -9;

    /** 2 pieces of NEWS, 4 PEOPLE: 0 tells 1 and 2, 1 tells 3. 0 begins at 0, 2, 4, 6; 1 at 3, 7. LAST is 9. */
    static final String FOUR = "T2432114123t10t20t31";
    /** 3 pieces of NEWS, 8 PEOPLE, LAST is 23: that of a run under ../shared/tests. */
    static final String EIGHT = "T382152413111618294t20t72t10t37t40t51t64";
    /** 8 in a chain, all DELAYS and GAPS 1. */
    static final String CHAIN = "T181111111111111111t10t21t32t43t54t65t76";

    private Look() {
    }

    /** n PEOPLE, all told by PERSON 0, all DELAYS and GAPS 1. */
    static String star(int m, int n) {
        StringBuilder b = new StringBuilder("T").append(m).append(n);
        for (int p = 0; p < n; p++) {
            b.append("11");
        }
        for (int p = 1; p < n; p++) {
            b.append('t').append(p).append('0');
        }
        return b.toString();
    }

    static String times(String letters, int many) {
        return letters.repeat(many);
    }

    /** Numbers outside of low .. high: the nearest, the farthest, and such as a mask or a cast would let in. */
    static int[] outside(int low, int high) {
        return new int[] {
            low - 1, high + 1, low - 2, high + 2, low - 32, high + 32, low - 256, high + 256, low - 65536, high + 65536,
            Integer.MIN_VALUE, Integer.MIN_VALUE + 1, Integer.MAX_VALUE - 1, Integer.MAX_VALUE
        };
    }

    /** THE PLAN: at each place 10 times who stands there and its TELLER. */
    static long[] plan(LateLetters x) {
        long[] row = new long[x.about(0) - 1];
        for (int i = 0; i < row.length; i++) {
            int p = x.plan(i);
            row[i] = 10 * p + x.person(p, 2);
        }
        return row;
    }

    static long[] row(long... row) {
        return row;
    }

    /** When each KNOWS each piece of NEWS. */
    static long[] ticks(LateLetters x) {
        int m = x.about(1);
        long[] ticks = new long[x.about(0) * m];
        for (int i = 0; i < ticks.length; i++) {
            ticks[i] = x.knows(i / m, i % m);
        }
        return ticks;
    }

    /** Of all PEOPLE what person() answers. */
    static long[] all(LateLetters x, int what) {
        long[] row = new long[x.about(0)];
        for (int p = 0; p < row.length; p++) {
            row[p] = x.person(p, what);
        }
        return row;
    }

    static int faultOf(String text) {
        LateLetters x = new LateLetters();
        Due.write(x, text);
        return x.fault();
    }

    /** THE TEXT is told anew. */
    static int tell(LateLetters x, String text) {
        x.wipe();
        Due.write(x, text);
        return x.telling();
    }
}
