/**
 * Telling all when each letter takes its time.
 *
 * <p>The words in capitals are those of the document (shared/DOC.md), which says what each call answers.
 * Every row is made in a constructor and used again, so that no call makes an object.
 */
public final class LateLetters {
    public static final int UNKNOWN = -1, BAD = -2, LATE = -3, FULL = -4, NONE = -9;

    private static final int FINE = 0;

    private static final int MOST_PEOPLE = 8;
    private static final int MOST_NEWS = 3;
    private static final int MOST_DELAY = 9;
    private static final int MOST_GAP = 5;
    private static final int MOST_LETTERS = 60;
    private static final int MOST_ACTS = 14;
    private static final int MOST_SEEN = 6;
    private static final int MOST_SEEN_TICK = 99;
    private static final int MOST_TICK_OF_NUMBERS = 60;
    private static final int MOST_SOUGHT = 99999;
    private static final int MOST_TICK_OF_KNOWERS = 999;
    private static final int MOST_DOINGS = 4;
    private static final int MOST_SLACK = 30;
    private static final int MOST_PEOPLE_OF_BEST = 6;
    private static final int MOST_DRAWS = 40;
    private static final int TENTHS = 10;
    private static final int SLOTS = 2;

    /** What set() tells anew. */
    private static final int DELAY = 0, GAP = 1, NEWS = 2;

    private static final long[] FACTORIALS = {1, 1, 2, 6, 24, 120, 720, 5040, 40320};

    private final Telling now = new Telling();
    /** What is only supposed is done here, so that nothing is changed. */
    private final Telling supposed = new Telling();
    private final Times times = new Times();
    private final Tellers tellers = new Tellers();
    private final Numbers numbers = new Numbers();
    private final Text text = new Text();
    private final Acts acts = new Acts();
    private final Slots slots = new Slots();
    private final Seen seen = new Seen();
    private final int[] doings = new int[MOST_DOINGS];
    private long theSeed;

    public LateLetters() {
    }

    // ---- the telling

    public int write(int letter) {
        if (letter < 0 || letter > 255) {
            return BAD;
        }
        return text.add(letter) ? text.length() : FULL;
    }

    public int wipe() {
        int length = text.length();
        text.clear();
        return length;
    }

    public int fault() {
        return text.firstFault();
    }

    public int telling() {
        if (text.firstFault() != NONE) {
            return LATE;
        }
        text.tellInto(now);
        acts.forgetAll();
        slots.forgetAll();
        return times.follow(now);
    }

    public int about(int what) {
        switch (what) {
            case 0:
                return now.people();
            case 1:
                return now.news();
            case 2:
                return times.follow(now);
            case 3:
                return lastIfQuick();
            case 4:
                return now.people() > MOST_PEOPLE_OF_BEST ? LATE : tellers.leastLast(now);
            case 5:
                return now.news() * now.standing();
            case 6:
                return acts.count();
            case 7:
                return seen.count();
            case 8:
                return text.length();
            default:
                return BAD;
        }
    }

    public int person(int person, int what) {
        if (!now.hasPerson(person)) {
            return UNKNOWN;
        }
        switch (what) {
            case 0:
                return now.delayOf(person);
            case 1:
                return now.gapOf(person);
            case 2:
                return now.tellerOf(person);
            case 3:
                return now.placeOf(person);
            case 4:
                return now.countToldBy(person);
            case 5:
                return slackOf(person);
            case 6:
                return gatheredFrom(person);
            default:
                return BAD;
        }
    }

    public int plan(int place) {
        return now.hasPlace(place) ? now.personAt(place) : UNKNOWN;
    }

    public int knows(int person, int news) {
        if (!now.hasPerson(person) || !now.hasNews(news)) {
            return UNKNOWN;
        }
        times.follow(now);
        return times.tickOf(person, news);
    }

    public int last(int news) {
        if (!now.hasNews(news)) {
            return UNKNOWN;
        }
        times.follow(now);
        int last = 0;
        for (int p = 0; p < now.people(); p++) {
            last = Math.max(last, times.tickOf(p, news));
        }
        return last;
    }

    // ---- acts

    public int move(int person, int teller) {
        int refusal = refusalOfMove(now, person, teller);
        if (refusal != FINE) {
            return refusal;
        }
        acts.remember(now);
        now.giveTeller(person, teller);
        return times.follow(now);
    }

    public int change(int i) {
        int refusal = refusalOfChange(now, i);
        if (refusal != FINE) {
            return refusal;
        }
        acts.remember(now);
        now.exchange(i);
        return times.follow(now);
    }

    public int quicken() {
        acts.remember(now);
        tellers.layQuickPlan(now);
        return times.follow(now);
    }

    public int set(int person, int what, int v) {
        int refusal = refusalOfSet(now, person, what, v);
        if (refusal != FINE) {
            return refusal;
        }
        acts.remember(now);
        return now.tellAnew(person, what, v);
    }

    public int undo() {
        return acts.takeBack(now) ? acts.count() : LATE;
    }

    // ---- asked

    public long number(int person, int t) {
        if (!now.hasPerson(person)) {
            return UNKNOWN;
        }
        if (t < 0 || t > MOST_TICK_OF_NUMBERS) {
            return BAD;
        }
        numbers.count(now.delayOf(person), now.gapOf(person));
        return numbers.by(t);
    }

    public int soon(int person, int v) {
        if (!now.hasPerson(person)) {
            return UNKNOWN;
        }
        if (v < 1 || v > MOST_SOUGHT) {
            return BAD;
        }
        numbers.count(now.delayOf(person), now.gapOf(person));
        for (int t = 0; t <= MOST_TICK_OF_NUMBERS; t++) {
            if (numbers.by(t) >= v) {
                return t;
            }
        }
        return NONE;
    }

    public int knowers(int news, int t) {
        if (!now.hasNews(news)) {
            return UNKNOWN;
        }
        if (t < 0 || t > MOST_TICK_OF_KNOWERS) {
            return BAD;
        }
        times.follow(now);
        int knowers = 0;
        for (int p = 0; p < now.people(); p++) {
            if (times.tickOf(p, news) <= t) {
                knowers |= 1 << p;
            }
        }
        return knowers;
    }

    public int judge(int n, long row) {
        if (n < 1 || n > MOST_DOINGS || row < 0 || !readDoings(n, row)) {
            return BAD;
        }
        supposed.become(now);
        for (int i = 0; i < n; i++) {
            int doing = at(doings, i);
            if (!canBe(doing / 100, doing / 10 % 10, doing % 10)) {
                return i;
            }
        }
        return NONE;
    }

    // ---- seen

    public int see(int person, int t) {
        if (!now.hasPerson(person)) {
            return UNKNOWN;
        }
        if (t < 0 || t > MOST_SEEN_TICK) {
            return BAD;
        }
        return seen.add(person, t) ? seen.count() : FULL;
    }

    public int unsee() {
        int count = seen.count();
        seen.forgetAll();
        return count;
    }

    public int which(int person) {
        if (!now.hasPerson(person)) {
            return UNKNOWN;
        }
        supposed.become(now);
        int delays = 0;
        for (int d = 1; d <= MOST_DELAY; d++) {
            supposed.setDelay(person, d);
            times.follow(supposed);
            if (seen.isSo(supposed, times)) {
                delays |= 1 << d;
            }
        }
        return delays;
    }

    // ---- shares, chances

    public int share(int person, boolean upper) {
        if (!now.hasPerson(person)) {
            return UNKNOWN;
        }
        int own = 1 << person;
        int weighty = peopleWhoseDelayMayCount();
        if ((weighty & own) == 0) {
            return partOfFraction(0, 1, upper);
        }
        supposed.become(now);
        int others = weighty & ~own;
        int many = Integer.bitCount(others);
        long sum = 0;
        for (int come = 0; come <= others; come++) {
            if ((come & ~others) == 0) {
                int ahead = Integer.bitCount(come);
                long orders = factorial(ahead) * factorial(many - ahead);
                sum += orders * (lastWhenCome(come | own) - lastWhenCome(come));
            }
        }
        return partOfFraction(sum, factorial(many + 1), upper);
    }

    public int chance(int v, int x, boolean upper) {
        if (v < 0 || v > MOST_PEOPLE || x < 0 || x > TENTHS) {
            return BAD;
        }
        long all = 1;
        for (int i = 0; i < now.standing(); i++) {
            all *= TENTHS;
        }
        return partOfFraction(chancesFrom(0, 1, v, x), all, upper);
    }

    public long seed(long v) {
        long was = theSeed;
        theSeed = v;
        return was;
    }

    public int drawn(int m) {
        if (m < 1 || m > MOST_DRAWS) {
            return BAD;
        }
        supposed.become(now);
        int sum = 0;
        for (int i = 0; i < m; i++) {
            theSeed = theSeed * 6364136223846793005L + 1442695040888963407L;
            drawDelays((int) (theSeed >>> 33));
            sum += times.follow(supposed);
        }
        return sum;
    }

    // ---- slots

    public int keep(int slot) {
        if (slot < 0 || slot >= SLOTS) {
            return UNKNOWN;
        }
        slots.fill(slot, now);
        return times.follow(now);
    }

    public int again(int slot) {
        if (slot < 0 || slot >= SLOTS) {
            return UNKNOWN;
        }
        if (!slots.fetch(slot, now)) {
            return LATE;
        }
        acts.forgetAll();
        return times.follow(now);
    }

    // ---- what the calls above are made of

    private static int refusalOfMove(Telling in, int person, int teller) {
        if (person == 0 || !in.hasPerson(person) || !in.hasPerson(teller)) {
            return UNKNOWN;
        }
        boolean late = teller == in.tellerOf(person) || (in.branchOf(person) >> teller & 1) != 0;
        return late ? LATE : FINE;
    }

    private static int refusalOfChange(Telling in, int i) {
        if (!in.hasPlace(i) || !in.hasPlace(i + 1)) {
            return UNKNOWN;
        }
        return in.tellerOf(in.personAt(i + 1)) == in.personAt(i) ? LATE : FINE;
    }

    private static int refusalOfSet(Telling in, int person, int what, int v) {
        if (!in.hasPerson(person)) {
            return UNKNOWN;
        }
        if (what < DELAY || what > NEWS || (what == NEWS && person != 0)) {
            return BAD;
        }
        int most = what == DELAY ? MOST_DELAY : what == GAP ? MOST_GAP : MOST_NEWS;
        return v < 1 || v > most ? BAD : FINE;
    }

    private int lastIfQuick() {
        supposed.become(now);
        tellers.layQuickPlan(supposed);
        return times.follow(supposed);
    }

    private int slackOf(int person) {
        int last = times.follow(now);
        supposed.become(now);
        // A greater DELAY never makes LAST less, so the first that is too much ends the search.
        for (int more = 1; more <= MOST_SLACK; more++) {
            supposed.setDelay(person, now.delayOf(person) + more);
            if (times.follow(supposed) > last) {
                return more - 1;
            }
        }
        return MOST_SLACK;
    }

    private int gatheredFrom(int person) {
        if (person == 0) {
            return NONE;
        }
        int last = times.follow(now);
        return last - times.tickOf(person, now.news() - 1);
    }

    /** Whether the row has no more than n doings; they are then told apart. */
    private boolean readDoings(int n, long row) {
        long rest = row;
        for (int i = n - 1; i >= 0; i--) {
            put(doings, i, (int) (rest % 1000));
            rest /= 1000;
        }
        return rest == 0;
    }

    private boolean canBe(int kind, int second, int third) {
        switch (kind) {
            case 1:
                return canBeMoved(second, third);
            case 2:
                return second == 0 && canBeChanged(third);
            case 3:
                if (second != 0 || third != 0) {
                    return false;
                }
                tellers.layQuickPlan(supposed);
                return true;
            case 4:
                return canBeDelayed(second, third);
            case 5:
                return times.follow(supposed) == 10 * second + third;
            case 6:
                times.follow(supposed);
                return supposed.hasPerson(second) && times.tickOf(second, 0) <= third;
            case 7:
                return supposed.hasPerson(second) && supposed.countToldBy(second) == third;
            default:
                return false;
        }
    }

    private boolean canBeMoved(int person, int teller) {
        if (refusalOfMove(supposed, person, teller) != FINE) {
            return false;
        }
        supposed.giveTeller(person, teller);
        return true;
    }

    private boolean canBeChanged(int i) {
        if (refusalOfChange(supposed, i) != FINE) {
            return false;
        }
        supposed.exchange(i);
        return true;
    }

    private boolean canBeDelayed(int person, int delay) {
        if (refusalOfSet(supposed, person, DELAY, delay) != FINE) {
            return false;
        }
        supposed.setDelay(person, delay);
        return true;
    }

    /**
     * All others (who tell nobody, or whose DELAY is 1) never make LAST more: leaving them out of
     * the orders changes nobody's SHARE, and leaves fewer orders.
     */
    private int peopleWhoseDelayMayCount() {
        int bits = 0;
        for (int p = 0; p < now.people(); p++) {
            if (now.delayOf(p) > 1 && now.countToldBy(p) > 0) {
                bits |= 1 << p;
            }
        }
        return bits;
    }

    private int lastWhenCome(int come) {
        for (int p = 0; p < now.people(); p++) {
            supposed.setDelay(p, (come >> p & 1) != 0 ? now.delayOf(p) : 1);
        }
        return times.follow(supposed);
    }

    /**
     * In how many of 10 to the (those from a place of THE PLAN on) like cases v or more KNOW, the
     * knowers ahead of that place being as they are.
     */
    private long chancesFrom(int place, int knowers, int v, int x) {
        if (place >= MOST_PEOPLE || !now.hasPlace(place)) {
            return Integer.bitCount(knowers) >= v ? 1 : 0;
        }
        int person = now.personAt(place);
        long ifLost = chancesFrom(place + 1, knowers, v, x);
        if ((knowers >> now.tellerOf(person) & 1) == 0) {
            return TENTHS * ifLost;
        }
        long ifTold = chancesFrom(place + 1, knowers | 1 << person, v, x);
        return x * ifLost + (TENTHS - x) * ifTold;
    }

    private void drawDelays(int v) {
        int rest = v;
        for (int p = 0; p < supposed.people(); p++) {
            supposed.setDelay(p, 1 + rest % 9);
            rest /= 9;
        }
    }

    private static long factorial(int k) {
        return k >= 0 && k < FACTORIALS.length ? FACTORIALS[k] : 0;
    }

    private static int partOfFraction(long above, long below, boolean upper) {
        long common = commonDivisor(Math.abs(above), below);
        if (common == 0) {
            return 0;
        }
        return (int) ((upper ? above : below) / common);
    }

    private static long commonDivisor(long a, long b) {
        long greater = a;
        long less = b;
        // Euclid's way takes far fewer steps than a long has bits, twice.
        for (int step = 0; step < 128 && less != 0; step++) {
            long rest = greater % less;
            greater = less;
            less = rest;
        }
        return greater;
    }

    /** Rows of int are read and written through these two, so that no index can be outside of one. */
    private static int at(int[] row, int i) {
        return i >= 0 && i < row.length ? row[i] : 0;
    }

    private static void put(int[] row, int i, int v) {
        if (i >= 0 && i < row.length) {
            row[i] = v;
        }
    }

    /** DELAYS, GAPS, m and THE PLAN: what an ACT changes, and what a SLOT keeps. */
    private static final class Telling {
        private int people;
        private int news;
        private int standing;
        private final int[] delays = new int[MOST_PEOPLE];
        private final int[] gaps = new int[MOST_PEOPLE];
        private final int[] tellerRow = new int[MOST_PEOPLE];
        private final int[] planRow = new int[MOST_PEOPLE];

        Telling() {
            people = 1;
            news = 1;
            delays[0] = 1;
            gaps[0] = 1;
            tellerRow[0] = NONE;
        }

        void become(Telling other) {
            people = other.people;
            news = other.news;
            standing = other.standing;
            System.arraycopy(other.delays, 0, delays, 0, MOST_PEOPLE);
            System.arraycopy(other.gaps, 0, gaps, 0, MOST_PEOPLE);
            System.arraycopy(other.tellerRow, 0, tellerRow, 0, MOST_PEOPLE);
            System.arraycopy(other.planRow, 0, planRow, 0, MOST_PEOPLE);
        }

        void startWith(int newPeople, int newNews) {
            people = newPeople;
            news = newNews;
            standing = 0;
        }

        void emptyPlan() {
            standing = 0;
        }

        void putLast(int person, int teller) {
            put(planRow, standing, person);
            put(tellerRow, person, teller);
            standing++;
        }

        int people() {
            return people;
        }

        int news() {
            return news;
        }

        int standing() {
            return standing;
        }

        boolean hasPerson(int p) {
            return p >= 0 && p < people;
        }

        boolean hasNews(int k) {
            return k >= 0 && k < news;
        }

        boolean hasPlace(int i) {
            return i >= 0 && i < standing;
        }

        int delayOf(int p) {
            return at(delays, p);
        }

        int gapOf(int p) {
            return at(gaps, p);
        }

        int tellerOf(int p) {
            return at(tellerRow, p);
        }

        int personAt(int place) {
            return at(planRow, place);
        }

        int placeOf(int person) {
            for (int i = 0; i < standing; i++) {
                if (personAt(i) == person) {
                    return i;
                }
            }
            return NONE;
        }

        int countToldBy(int teller) {
            int count = 0;
            for (int i = 0; i < standing; i++) {
                if (tellerOf(personAt(i)) == teller) {
                    count++;
                }
            }
            return count;
        }

        /** A PERSON and all that it tells, by however many, as bits. */
        int branchOf(int person) {
            int bits = 1 << person;
            // A TELLER stands ahead of those it tells: once along THE PLAN finds all.
            for (int i = 0; i < standing; i++) {
                int p = personAt(i);
                if ((bits >> tellerOf(p) & 1) != 0) {
                    bits |= 1 << p;
                }
            }
            return bits;
        }

        void setDelay(int person, int v) {
            put(delays, person, v);
        }

        void setGap(int person, int v) {
            put(gaps, person, v);
        }

        /** Answers what it was. */
        int tellAnew(int person, int what, int v) {
            int was;
            if (what == DELAY) {
                was = delayOf(person);
                setDelay(person, v);
            } else if (what == GAP) {
                was = gapOf(person);
                setGap(person, v);
            } else {
                was = news;
                news = v;
            }
            return was;
        }

        void giveTeller(int person, int teller) {
            int branch = branchOf(person);
            put(tellerRow, person, teller);
            int place = 0;
            // Each is looked at once: what went behind lies beyond the last look.
            for (int look = 0; look < standing; look++) {
                if ((branch >> personAt(place) & 1) != 0) {
                    sendBehindAll(place);
                } else {
                    place++;
                }
            }
        }

        private void sendBehindAll(int place) {
            int person = personAt(place);
            for (int i = place; i < standing - 1; i++) {
                put(planRow, i, personAt(i + 1));
            }
            put(planRow, standing - 1, person);
        }

        void exchange(int i) {
            int person = personAt(i);
            put(planRow, i, personAt(i + 1));
            put(planRow, i + 1, person);
        }
    }

    /** At which TICK who KNOWS which piece of NEWS. */
    private static final class Times {
        private final int[] ticks = new int[MOST_NEWS * MOST_PEOPLE];
        /** From when on each one's next LETTER can be BEGUN, as far as its GAP goes. */
        private final int[] freeFrom = new int[MOST_PEOPLE];

        /** Answers LAST. */
        int follow(Telling telling) {
            for (int p = 0; p < MOST_PEOPLE; p++) {
                put(freeFrom, p, 0);
            }
            int last = 0;
            // By NEWS, then along THE PLAN: so each teller's LETTERS come in its own row, and
            // behind the one by which it KNOWS. (PERSON 0's TICKS are 0 for good.)
            for (int k = 0; k < telling.news(); k++) {
                for (int i = 0; i < telling.standing(); i++) {
                    last = Math.max(last, send(telling, telling.personAt(i), k));
                }
            }
            return last;
        }

        private int send(Telling telling, int person, int k) {
            int teller = telling.tellerOf(person);
            int begun = Math.max(tickOf(teller, k), at(freeFrom, teller));
            int there = begun + telling.delayOf(teller);
            put(freeFrom, teller, begun + telling.gapOf(teller));
            put(ticks, k * MOST_PEOPLE + person, there);
            return there;
        }

        int tickOf(int person, int k) {
            return at(ticks, k * MOST_PEOPLE + person);
        }
    }

    /** Those that KNOW so far, by one piece of NEWS: how QUICK and BEST go on from them. */
    private static final class Tellers {
        /** More than any LAST by one piece of NEWS. */
        private static final int NEVER = 1000;

        /** When the next LETTER of each that KNOWS would be there. */
        private final int[] nextThere = new int[MOST_PEOPLE];
        private int knowers;

        void layQuickPlan(Telling telling) {
            begin(telling);
            telling.emptyPlan();
            for (int i = 1; i < telling.people(); i++) {
                int teller = soonest(telling);
                int person = leastDelayed(telling);
                tell(telling, teller, person);
                telling.putLast(person, teller);
            }
        }

        int leastLast(Telling telling) {
            if (telling.people() == 1) {
                return 0;
            }
            begin(telling);
            return leastLastFrom(telling, telling.people() - 1, NEVER);
        }

        /**
         * Where a LETTER that would be there sooner is not sent, the one that KNOWS last (and so
         * tells nobody) could as well be told by it: some BEST PLAN always sends the soonest, and
         * only whom it goes to is to be tried.
         */
        private int leastLastFrom(Telling telling, int left, int found) {
            int teller = soonest(telling);
            int there = at(nextThere, teller);
            if (left <= 1 || there >= found) {
                return Math.min(there, found);
            }
            int least = found;
            for (int p = 1; p < telling.people(); p++) {
                if (!isKnower(p)) {
                    tell(telling, teller, p);
                    least = leastLastFrom(telling, left - 1, least);
                    takeBack(telling, teller, p);
                }
            }
            return least;
        }

        private void begin(Telling telling) {
            knowers = 1;
            put(nextThere, 0, telling.delayOf(0));
        }

        private boolean isKnower(int p) {
            return (knowers >> p & 1) != 0;
        }

        private int soonest(Telling telling) {
            int found = 0;
            for (int p = 1; p < telling.people(); p++) {
                if (isKnower(p) && at(nextThere, p) < at(nextThere, found)) {
                    found = p;
                }
            }
            return found;
        }

        private int leastDelayed(Telling telling) {
            int found = 0;
            for (int p = 1; p < telling.people(); p++) {
                if (!isKnower(p) && (found == 0 || isLessDelayed(telling, p, found))) {
                    found = p;
                }
            }
            return found;
        }

        private static boolean isLessDelayed(Telling telling, int p, int q) {
            if (telling.delayOf(p) != telling.delayOf(q)) {
                return telling.delayOf(p) < telling.delayOf(q);
            }
            return telling.gapOf(p) < telling.gapOf(q);
        }

        private void tell(Telling telling, int teller, int person) {
            int there = at(nextThere, teller);
            put(nextThere, teller, there + telling.gapOf(teller));
            put(nextThere, person, there + telling.delayOf(person));
            knowers |= 1 << person;
        }

        private void takeBack(Telling telling, int teller, int person) {
            put(nextThere, teller, at(nextThere, teller) - telling.gapOf(teller));
            knowers &= ~(1 << person);
        }
    }

    /** NUMBERS by each TICK, all being alike. */
    private static final class Numbers {
        private final long[] byTick = new long[MOST_TICK_OF_NUMBERS + 1];

        void count(int delay, int gap) {
            for (int t = 0; t < byTick.length; t++) {
                // All but the first LETTER's are those by one GAP less: so the sum need not be gone through.
                byTick[t] = t < delay ? 1 : by(t - delay) + by(t - gap);
            }
        }

        /** Ahead of TICK 0, too, the first one alone is counted. */
        long by(int t) {
            return t >= 0 && t < byTick.length ? byTick[t] : 1;
        }
    }

    /** THE TEXT. */
    private static final class Text {
        private static final int PLACE_OF_NEWS = 1;
        private static final int PLACE_OF_PEOPLE = 2;
        private static final int HEAD = 3;

        private final int[] letters = new int[MOST_LETTERS];
        private int length;

        int length() {
            return length;
        }

        boolean add(int letter) {
            if (length >= MOST_LETTERS) {
                return false;
            }
            put(letters, length, letter);
            length++;
            return true;
        }

        void clear() {
            length = 0;
        }

        int firstFault() {
            for (int place = 0; place < length; place++) {
                if (!fits(place)) {
                    return place;
                }
            }
            return length > PLACE_OF_PEOPLE && length == wholeLength() ? NONE : length;
        }

        void tellInto(Telling telling) {
            int people = figureAt(PLACE_OF_PEOPLE);
            telling.startWith(people, figureAt(PLACE_OF_NEWS));
            for (int p = 0; p < people; p++) {
                telling.setDelay(p, figureAt(HEAD + 2 * p));
                telling.setGap(p, figureAt(HEAD + 2 * p + 1));
            }
            for (int place = planStart(); place < length; place += 3) {
                telling.putLast(figureAt(place + 1), figureAt(place + 2));
            }
        }

        private int figureAt(int place) {
            return at(letters, place) - '0';
        }

        private boolean isFigure(int place, int least, int most) {
            int figure = figureAt(place);
            return figure >= least && figure <= most;
        }

        private int planStart() {
            return HEAD + 2 * figureAt(PLACE_OF_PEOPLE);
        }

        private int wholeLength() {
            return planStart() + 3 * (figureAt(PLACE_OF_PEOPLE) - 1);
        }

        /** Whether a letter can stand at its place, all ahead of it being as they should. */
        private boolean fits(int place) {
            if (place < HEAD) {
                return fitsInHead(place);
            }
            int start = planStart();
            if (place < start) {
                return isFigure(place, 1, (place - HEAD) % 2 == 0 ? MOST_DELAY : MOST_GAP);
            }
            return place < wholeLength() && fitsInPlan(place, start);
        }

        private boolean fitsInHead(int place) {
            switch (place) {
                case PLACE_OF_NEWS:
                    return isFigure(place, 1, MOST_NEWS);
                case PLACE_OF_PEOPLE:
                    return isFigure(place, 1, MOST_PEOPLE);
                default:
                    return at(letters, place) == 'T';
            }
        }

        private boolean fitsInPlan(int place, int start) {
            int figure = figureAt(place);
            switch ((place - start) % 3) {
                case 0:
                    return at(letters, place) == 't';
                case 1:
                    return isFigure(place, 1, figureAt(PLACE_OF_PEOPLE) - 1) && !stands(figure, start, place);
                default:
                    return figure == 0 || stands(figure, start, place - 1);
            }
        }

        /** Whether a PERSON stands in THE PLAN that begins at start, ahead of the place end. */
        private boolean stands(int person, int start, int end) {
            for (int place = start + 1; place < end; place += 3) {
                if (figureAt(place) == person) {
                    return true;
                }
            }
            return false;
        }
    }

    /** A row of TELLINGS as they were. */
    private static final class Shelf {
        private final Telling[] places;

        Shelf(int size) {
            places = new Telling[Math.max(size, 0)];
            for (int i = 0; i < places.length; i++) {
                places[i] = new Telling();
            }
        }

        void store(int i, Telling telling) {
            Telling place = placeAt(i);
            if (place != null) {
                place.become(telling);
            }
        }

        void bring(int i, Telling telling) {
            Telling place = placeAt(i);
            if (place != null) {
                telling.become(place);
            }
        }

        private Telling placeAt(int i) {
            return i >= 0 && i < places.length ? places[i] : null;
        }
    }

    /** ACTS, each as THE TELLING ahead of it. */
    private static final class Acts {
        private final Shelf before = new Shelf(MOST_ACTS);
        /** The first one's place: the shelf is gone round, so that forgetting it moves nothing. */
        private int first;
        private int count;

        int count() {
            return count;
        }

        void forgetAll() {
            count = 0;
        }

        void remember(Telling telling) {
            if (count == MOST_ACTS) {
                first = (first + 1) % MOST_ACTS;
                count--;
            }
            before.store((first + count) % MOST_ACTS, telling);
            count++;
        }

        boolean takeBack(Telling telling) {
            if (count == 0) {
                return false;
            }
            count--;
            before.bring((first + count) % MOST_ACTS, telling);
            return true;
        }
    }

    private static final class Slots {
        private final Shelf kept = new Shelf(SLOTS);
        private int filled;

        void forgetAll() {
            filled = 0;
        }

        void fill(int slot, Telling telling) {
            kept.store(slot, telling);
            filled |= 1 << slot;
        }

        boolean fetch(int slot, Telling telling) {
            if ((filled >> slot & 1) == 0) {
                return false;
            }
            kept.bring(slot, telling);
            return true;
        }
    }

    /** SEEN: who came to KNOW NEWS 0 at which TICK. */
    private static final class Seen {
        private final int[] people = new int[MOST_SEEN];
        private final int[] ticks = new int[MOST_SEEN];
        private int count;

        int count() {
            return count;
        }

        void forgetAll() {
            count = 0;
        }

        boolean add(int person, int t) {
            if (count >= MOST_SEEN) {
                return false;
            }
            put(people, count, person);
            put(ticks, count, t);
            count++;
            return true;
        }

        boolean isSo(Telling telling, Times times) {
            for (int i = 0; i < count; i++) {
                int person = at(people, i);
                if (telling.hasPerson(person) && times.tickOf(person, 0) != at(ticks, i)) {
                    return false;
                }
            }
            return true;
        }
    }
}
