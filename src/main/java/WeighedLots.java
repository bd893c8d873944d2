/**
 * Yes-no functions of two to four VOTERS: what weights tell them, what forbids that, and what becomes of them.
 * The words in capitals are those of the document.
 */
public final class WeighedLots {
    public static final int NONE = -1, BAD = -2, STATE = -3, FULL = -4;
    public static final long NO = Long.MIN_VALUE;

    private static final int NO_SUCH = -5;
    private static final int NOTHING = -11, CAST = -12, PLACE = -13, SIZE = -14;

    /** Numbers that may be below 0 are answered with this more, so that no refusal looks like one of them. */
    private static final int LIFT = 100;

    private static final int FEWEST_VOTERS = 2, MOST_VOTERS = 4;
    private static final int GREATEST_WEIGHT = 9, GREATEST_QUOTA = 40;
    private static final int TAPES = 6;

    private static final int LOT_FLIPS = 0, VOTER_TURNS = 1, DUAL_COMES = 2, NEIGHBOURS_CHANGE = 3;

    private final Setup now = new Setup();
    private final Setup image = new Setup();
    private boolean imageTaken = false;
    private final SetupText text = new SetupText();
    private final Tape[] tapes = new Tape[TAPES];
    private final Scales scales = new Scales();
    private final Orbit orbit = new Orbit();
    private final Trades trades = new Trades();
    private final Twins twins = new Twins();

    public WeighedLots() {
        for (int t = 0; t < TAPES; t++) {
            tapes[t] = new Tape();
        }
    }

    // ---- the function, weights

    public int voters(int n) {
        if (n < FEWEST_VOTERS || n > MOST_VOTERS) {
            return BAD;
        }
        int before = now.n;
        now.startAnew(n);
        return before;
    }

    public int say(int lot, int is) {
        if (!now.hasLot(lot)) {
            return NONE;
        }
        if (!isYesOrNo(is)) {
            return BAD;
        }
        int before = Lots.says(now.code, lot);
        if (before != is) {
            now.code = Lots.flipped(now.code, lot);
        }
        return before;
    }

    public int code(int code) {
        if (code < 0 || code > Lots.allYes(now.n)) {
            return BAD;
        }
        int before = now.code;
        now.code = code;
        return before;
    }

    public int weight(int voter, int v) {
        if (!now.hasVoter(voter)) {
            return NONE;
        }
        if (v < -GREATEST_WEIGHT || v > GREATEST_WEIGHT) {
            return BAD;
        }
        int before = now.weights[voter];
        now.weights[voter] = v;
        return before + LIFT;
    }

    public int quota(int v) {
        if (v < -GREATEST_QUOTA || v > GREATEST_QUOTA) {
            return BAD;
        }
        int before = now.quota;
        now.quota = v;
        return before + LIFT;
    }

    public int weigh() {
        return now.take(now.weighed());
    }

    public int becomes(int how) {
        switch (how) {
            case 0:
                return now.take(Lots.dual(now.n, now.code));
            case 1:
                return now.take(Lots.opposite(now.n, now.code));
            case 2:
                return takeLeastWeights();
            default:
                return NONE;
        }
    }

    private int takeLeastWeights() {
        if (!scales.balance(now.n, now.code)) {
            return STATE;
        }
        Setup.copyRow(scales.weights, now.weights);
        now.quota = scales.quota;
        return now.quota + LIFT;
    }

    public int turn(int voter) {
        if (!now.hasVoter(voter)) {
            return NONE;
        }
        return now.take(Lots.turned(now.code, voter));
    }

    public int exchange(int i, int j) {
        if (!now.hasVoter(i) || !now.hasVoter(j) || i == j) {
            return NONE;
        }
        return now.take(Lots.changedAbout(now.code, i, j));
    }

    public int keep() {
        now.kept = now.code;
        return now.kept;
    }

    public int feed(int sign) {
        if (sign < 0 || sign > 127) {
            return BAD;
        }
        return text.append(sign) ? text.length : FULL;
    }

    public int read() {
        int fault = text.parse();
        text.length = 0;
        if (fault != SetupText.NO_FAULT) {
            return -10 - fault;
        }
        int done = 0;
        for (int c = 0; c < text.clauses; c++) {
            if (carryOut(text.kinds[c], text.firsts[c], text.seconds[c]) >= 0) {
                done++;
            }
        }
        return done;
    }

    /**
     * What can be refused is the call that it stands for, so that both refuse the same; below 0: refused.
     * d and o leave becomes() out, whose third sort of change would make calls go deeper than they may.
     */
    private int carryOut(int kind, int first, int second) {
        switch (kind) {
            case 'n':
                return voters(first);
            case '+':
                return say(first, 1);
            case '-':
                return say(first, 0);
            case 'w':
                return weight(first, second);
            case 'q':
                return quota(first);
            case 'g':
                return weigh();
            case 'd':
                return now.take(Lots.dual(now.n, now.code));
            case 'o':
                return now.take(Lots.opposite(now.n, now.code));
            case 't':
                return turn(first);
            case 'x':
                return exchange(first, second);
            case 'k':
                return keep();
            default:
                return NONE;
        }
    }

    // ---- what is told

    public int of(int lot, int what) {
        if (!now.hasLot(lot)) {
            return NONE;
        }
        switch (what) {
            case 0:
                return Lots.says(now.code, lot);
            case 1:
                return Lots.says(now.kept, lot);
            case 2:
                return Lots.says(now.weighed(), lot);
            case 3:
                return now.worthOf(lot) + LIFT;
            default:
                return NONE;
        }
    }

    public int told(int what) {
        switch (what) {
            case 0:
                return now.n;
            case 1:
                return now.code;
            case 2:
                return now.kept;
            case 3:
                return now.weighed();
            case 4:
                return now.quota + LIFT;
            case 5:
                return oneIf(Lots.isRising(now.n, now.code));
            case 6:
                return oneIf(Lots.isOwnDual(now.n, now.code));
            case 7:
                return oneIf(scales.balance(now.n, now.code));
            case 8:
                return twins.ofCode(now.n, now.code);
            case 9:
                return Integer.bitCount(Lots.leastOnes(now.n, now.code));
            case 10:
                orbit.spread(now.n, now.code);
                return orbit.size;
            case 11:
                orbit.spread(now.n, now.code);
                return orbit.stepsTo(now.kept);
            default:
                return NONE;
        }
    }

    public int weightOf(int voter, int what) {
        if (!now.hasVoter(voter) || what < 0 || what > 1) {
            return NONE;
        }
        if (what == 0) {
            return now.weights[voter] + LIFT;
        }
        return scales.balance(now.n, now.code) ? scales.weights[voter] + LIFT : STATE;
    }

    public int least() {
        return scales.balance(now.n, now.code) ? scales.quota + LIFT : STATE;
    }

    public int chow(int voter) {
        if (voter == -1) {
            return Integer.bitCount(now.code);
        }
        return now.hasVoter(voter) ? Integer.bitCount(now.code & Lots.with(voter)) : NONE;
    }

    // ---- trades, lots

    public int trade(int what) {
        if (what < 0 || what > 4) {
            return NONE;
        }
        trades.find(now.n, now.code);
        if (what == 0) {
            return trades.many;
        }
        return trades.many == 0 ? NO_SUCH : trades.first[what - 1];
    }

    public int leastLot(int i) {
        if (i < 0) {
            return NONE;
        }
        int leastOnes = Lots.leastOnes(now.n, now.code);
        int ahead = 0;
        for (int lot = 0; lot < now.lots(); lot++) {
            if (Lots.says(leastOnes, lot) == 1) {
                if (ahead == i) {
                    return lot;
                }
                ahead++;
            }
        }
        return NO_SUCH;
    }

    public int swings(int voter) {
        return now.hasVoter(voter) ? Lots.swingsOf(now.n, now.code, voter) : NONE;
    }

    // ---- seen, odds

    public int see(int lot, int is) {
        return addSaying(now.seen, lot, is);
    }

    public int fits(int what) {
        if (what < 0 || what > 1) {
            return NONE;
        }
        int least = leastFit();
        int many = Math.max(0, greatestFit() - least + 1);
        if (what == 0) {
            return many;
        }
        return many == 0 ? 0 : least + GREATEST_QUOTA + 1;
    }

    /** A LOT seen as no bids the QUOTA be above its WORTH; one that is no more, above all. */
    private int leastFit() {
        int least = -GREATEST_QUOTA;
        for (int r = 0; r < now.seen.size; r++) {
            int lot = now.seen.firsts[r];
            if (!now.hasLot(lot)) {
                return GREATEST_QUOTA + 1;
            }
            if (now.seen.seconds[r] == 0) {
                least = Math.max(least, now.worthOf(lot) + 1);
            }
        }
        return least;
    }

    /** A LOT seen as yes bids the QUOTA be no more than its WORTH. */
    private int greatestFit() {
        int greatest = GREATEST_QUOTA;
        for (int r = 0; r < now.seen.size; r++) {
            int lot = now.seen.firsts[r];
            if (now.hasLot(lot) && now.seen.seconds[r] == 1) {
                greatest = Math.min(greatest, now.worthOf(lot));
            }
        }
        return greatest;
    }

    public long odds(int voter, int part) {
        if (!now.hasVoter(voter) || part < 0 || part > 1) {
            return NO;
        }
        return partOfFraction(Lots.swingsOf(now.n, now.code, voter), now.lots() / 2, part);
    }

    public long mean(int part) {
        if (part < 0 || part > 1) {
            return NO;
        }
        int together = 0;
        for (int lot = 0; lot < now.lots(); lot++) {
            together += now.worthOf(lot);
        }
        return partOfFraction(together, now.lots(), part);
    }

    /** How many LOTS there are is a power of two, so that above and below can have only halves in common. */
    private static long partOfFraction(int above, int below, int part) {
        int over = above;
        int under = below;
        for (int halved = 0; halved < MOST_VOTERS && under > 1 && over % 2 == 0; halved++) {
            over /= 2;
            under /= 2;
        }
        return part == 0 ? over : under;
    }

    // ---- events, books

    public int event(int what, int n) {
        if (what == -1) {
            now.events.size = 0;
            return 0;
        }
        if (what == DUAL_COMES) {
            if (n != 0) {
                return BAD;
            }
        } else if (!eventFinds(what, n)) {
            return NONE;
        }
        return now.events.append(what, n) ? now.events.size : FULL;
    }

    private boolean eventFinds(int what, int n) {
        switch (what) {
            case LOT_FLIPS:
                return now.hasLot(n);
            case VOTER_TURNS:
                return now.hasVoter(n);
            case DUAL_COMES:
                return true;
            case NEIGHBOURS_CHANGE:
                return n >= 0 && n < now.n - 1;
            default:
                return false;
        }
    }

    public int after(int what) {
        switch (what) {
            case 0:
                return codeBehindEvents();
            case 1:
                return oneIf(scales.balance(now.n, codeBehindEvents()));
            case 2:
                return oneIf(Lots.isOwnDual(now.n, codeBehindEvents()));
            default:
                return NONE;
        }
    }

    private int codeBehindEvents() {
        int code = now.code;
        for (int r = 0; r < now.events.size; r++) {
            int what = now.events.firsts[r];
            int n = now.events.seconds[r];
            if (eventFinds(what, n)) {
                code = codeBehind(code, what, n);
            }
        }
        return code;
    }

    private int codeBehind(int code, int what, int n) {
        switch (what) {
            case LOT_FLIPS:
                return Lots.flipped(code, n);
            case VOTER_TURNS:
                return Lots.turned(code, n);
            case DUAL_COMES:
                return Lots.dual(now.n, code);
            default:
                return Lots.changedAbout(code, n, n + 1);
        }
    }

    public int book(int lot, int is) {
        return addSaying(now.book, lot, is);
    }

    public int looked() {
        for (int r = 0; r < now.book.size; r++) {
            int lot = now.book.firsts[r];
            if (!now.hasLot(lot) || Lots.says(now.code, lot) != now.book.seconds[r]) {
                return r;
            }
        }
        return NO_SUCH;
    }

    /** SEEN and the BOOK take their rows alike: a LOT, and whether it is yes; LOT -1 empties them. */
    private int addSaying(Rows rows, int lot, int is) {
        if (lot == -1) {
            rows.size = 0;
            return 0;
        }
        if (!now.hasLot(lot)) {
            return NONE;
        }
        if (!isYesOrNo(is)) {
            return BAD;
        }
        return rows.append(lot, is) ? rows.size : FULL;
    }

    // ---- judging, the image, tapes

    public int judge(int tape, int i) {
        if (!isTape(tape)) {
            return NONE;
        }
        Tape row = tapes[tape];
        if (row.holdsNothing()) {
            return LIFT;
        }
        if (row.sort != Tape.BOOLEANS) {
            return CAST;
        }
        for (int lot = 0; lot < now.lots(); lot++) {
            // Not i + lot >= size: a great i would wrap around.
            if (i < 0 || i >= row.size - lot) {
                return LIFT + lot;
            }
            if (row.items[i + lot] != Lots.says(now.code, lot)) {
                return lot;
            }
        }
        return NO_SUCH;
    }

    public int image() {
        image.copyFrom(now);
        imageTaken = true;
        return now.code;
    }

    public int undo() {
        if (!imageTaken) {
            return STATE;
        }
        now.copyFrom(image);
        return now.code;
    }

    public int count(int what) {
        switch (what) {
            case 0:
                return now.seen.size;
            case 1:
                return now.events.size;
            case 2:
                return now.book.size;
            case 3:
                return text.length;
            default:
                return BAD;
        }
    }

    public int tape(int tape, int sort, int n) {
        if (!isTape(tape)) {
            return NONE;
        }
        if (sort == Tape.NO_SORT) {
            tapes[tape].become(Tape.NO_SORT, 0);
            return 1;
        }
        if (sort < Tape.BYTES || sort > Tape.BOOLEANS || n > Tape.MOST_ITEMS) {
            return BAD;
        }
        if (n < 0) {
            return SIZE;
        }
        tapes[tape].become(sort, n);
        return 1;
    }

    public int item(int tape, int i, long v) {
        if (!isTape(tape)) {
            return NONE;
        }
        Tape row = tapes[tape];
        if (row.holdsNothing()) {
            return NOTHING;
        }
        if (!row.hasPlace(i)) {
            return PLACE;
        }
        row.items[i] = row.cut(v);
        return 1;
    }

    public long peek(int tape, int i) {
        if (!isTape(tape) || !tapes[tape].hasPlace(i)) {
            return NO;
        }
        return tapes[tape].items[i];
    }

    public int shift(int tape, int i, int other, int j, int n) {
        if (!isTape(tape) || !isTape(other)) {
            return NONE;
        }
        Tape from = tapes[tape];
        Tape to = tapes[other];
        if (from.holdsNothing() || to.holdsNothing()) {
            return NOTHING;
        }
        if (from.sort != to.sort) {
            return CAST;
        }
        if (!from.hasStretch(i, n) || !to.hasStretch(j, n)) {
            return PLACE;
        }
        System.arraycopy(from.items, i, to.items, j, n);
        return n;
    }

    private static boolean isTape(int tape) {
        return tape >= 0 && tape < TAPES;
    }

    private static boolean isYesOrNo(int is) {
        return is == 0 || is == 1;
    }

    private static int oneIf(boolean holds) {
        return holds ? 1 : 0;
    }

    /** What can be made of a CODE by itself. A set of LOTS is held as a CODE is: bit k for LOT k. */
    private static final class Lots {
        /** For each VOTER the set of LOTS that have it: sets of LOTS move as a whole then, by masks and shifts. */
        private static final int[] WITH = {0xAAAA, 0xCCCC, 0xF0F0, 0xFF00};

        static int with(int voter) {
            return WITH[voter];
        }

        static int allYes(int n) {
            return (1 << (1 << n)) - 1;
        }

        static int says(int code, int lot) {
            return (code >> lot) & 1;
        }

        static int flipped(int code, int lot) {
            return code ^ (1 << lot);
        }

        static int opposite(int n, int code) {
            return code ^ allYes(n);
        }

        static int turned(int code, int voter) {
            int step = 1 << voter;
            return ((code & WITH[voter]) >> step) | ((code & ~WITH[voter]) << step);
        }

        /** The LOT of all other VOTERS is come to by turning over each one. */
        static int dual(int n, int code) {
            int others = code;
            for (int voter = 0; voter < n; voter++) {
                others = turned(others, voter);
            }
            return opposite(n, others);
        }

        static int changedAbout(int code, int i, int j) {
            int low = Math.min(i, j);
            int high = Math.max(i, j);
            int lowAlone = WITH[low] & ~WITH[high];
            int highAlone = WITH[high] & ~WITH[low];
            int step = (1 << high) - (1 << low);
            return (code & ~(lowAlone | highAlone)) | ((code & lowAlone) << step) | ((code & highAlone) >> step);
        }

        static boolean isOwnDual(int n, int code) {
            return dual(n, code) == code;
        }

        /** One VOTER more at a time is enough: every greater LOT is come to so. */
        static boolean isRising(int n, int code) {
            for (int voter = 0; voter < n; voter++) {
                if (losesBy(code, voter) != 0) {
                    return false;
                }
            }
            return true;
        }

        /** The LOTS with a VOTER that are no, though they are yes without that VOTER. */
        static int losesBy(int code, int voter) {
            return turned(code, voter) & ~code & WITH[voter];
        }

        /** The LOTS with a VOTER that are yes, though they are no without that VOTER. */
        static int winsBy(int n, int code, int voter) {
            return losesBy(opposite(n, code), voter);
        }

        static int swingsOf(int n, int code, int voter) {
            return Integer.bitCount(losesBy(code, voter)) + Integer.bitCount(winsBy(n, code, voter));
        }

        static int leastOnes(int n, int code) {
            int found = 0;
            for (int lot = 0; lot < 1 << n; lot++) {
                if (says(code, lot) == 1 && !hasYesWithin(code, lot)) {
                    found |= 1 << lot;
                }
            }
            return found;
        }

        private static boolean hasYesWithin(int code, int lot) {
            for (int other = 0; other < lot; other++) {
                if ((other & lot) == other && says(code, other) == 1) {
                    return true;
                }
            }
            return false;
        }
    }

    /** All that THE IMAGE holds, so that it is taken and come back to by one copy. */
    private static final class Setup {
        int n = 3;
        int code = 0;
        int kept = 0;
        final int[] weights = new int[MOST_VOTERS];
        int quota = 1;
        final Rows seen = new Rows(6);
        final Rows events = new Rows(8);
        final Rows book = new Rows(8);

        Setup() {
        }

        /** What was told by hand stays: only VOTERS, functions and weights begin anew. */
        void startAnew(int voters) {
            n = voters;
            code = 0;
            kept = 0;
            quota = 1;
            for (int voter = 0; voter < MOST_VOTERS; voter++) {
                weights[voter] = 0;
            }
        }

        /** THE FUNCTION becomes that of a CODE, which is answered. */
        int take(int newCode) {
            code = newCode;
            return newCode;
        }

        void copyFrom(Setup other) {
            n = other.n;
            code = other.code;
            kept = other.kept;
            quota = other.quota;
            copyRow(other.weights, weights);
            seen.copyFrom(other.seen);
            events.copyFrom(other.events);
            book.copyFrom(other.book);
        }

        static void copyRow(int[] from, int[] to) {
            System.arraycopy(from, 0, to, 0, Math.min(from.length, to.length));
        }

        int lots() {
            return 1 << n;
        }

        boolean hasLot(int lot) {
            return lot >= 0 && lot < lots();
        }

        boolean hasVoter(int voter) {
            return voter >= 0 && voter < n;
        }

        int worthOf(int lot) {
            return Scales.worth(weights, lot);
        }

        int weighed() {
            int found = 0;
            for (int lot = 0; lot < lots(); lot++) {
                if (worthOf(lot) >= quota) {
                    found |= 1 << lot;
                }
            }
            return found;
        }
    }

    /** Rows of two numbers told by hand, up to a bound. */
    private static final class Rows {
        final int[] firsts;
        final int[] seconds;
        int size = 0;

        Rows(int most) {
            firsts = new int[most];
            seconds = new int[most];
        }

        boolean append(int first, int second) {
            if (size >= firsts.length) {
                return false;
            }
            firsts[size] = first;
            seconds[size] = second;
            size++;
            return true;
        }

        void copyFrom(Rows other) {
            Setup.copyRow(other.firsts, firsts);
            Setup.copyRow(other.seconds, seconds);
            size = other.size;
        }
    }

    /** LEAST WEIGHTS and the LEAST QUOTA of a function. */
    private static final class Scales {
        private static final int GREATEST = 4;

        /** Above and below the WORTH of every LOT. */
        private static final int BEYOND = 1000;

        final int[] weights = new int[MOST_VOTERS];
        int quota = 0;
        private final int[] lows = new int[MOST_VOTERS];
        private final int[] highs = new int[MOST_VOTERS];
        private final int[] tried = new int[MOST_VOTERS];
        private int leastTogether = BEYOND;
        private int leastYes = 0;
        private int greatestNo = 0;

        Scales() {
        }

        static int worth(int[] weights, int lot) {
            int together = 0;
            for (int voter = 0; voter < weights.length; voter++) {
                if (((lot >> voter) & 1) == 1) {
                    together += weights[voter];
                }
            }
            return together;
        }

        /** Whether the function is LINEAR; then weights and quota are its LEAST ones. */
        boolean balance(int n, int code) {
            leastTogether = BEYOND;
            if (!setBounds(n, code)) {
                return false;
            }
            tryAll(n, code);
            if (leastTogether == BEYOND) {
                return false;
            }
            divides(weights, n, code);
            quota = code == 0 ? greatestNo + 1 : leastYes;
            return true;
        }

        /**
         * A VOTER that makes a LOT yes weighs more than 0, one that makes it no less than 0, and none weighs both;
         * one that does neither can weigh 0 as well, which is least. So few weights are left to try.
         */
        private boolean setBounds(int n, int code) {
            for (int voter = 0; voter < MOST_VOTERS; voter++) {
                boolean wins = voter < n && Lots.winsBy(n, code, voter) != 0;
                boolean loses = voter < n && Lots.losesBy(code, voter) != 0;
                if (wins && loses) {
                    return false;
                }
                lows[voter] = wins ? 1 : loses ? -GREATEST : 0;
                highs[voter] = wins ? GREATEST : loses ? -1 : 0;
            }
            return true;
        }

        /** In the order of rows, so that of several least ones the first is held. */
        private void tryAll(int n, int code) {
            for (int w0 = lows[0]; w0 <= highs[0]; w0++) {
                for (int w1 = lows[1]; w1 <= highs[1]; w1++) {
                    for (int w2 = lows[2]; w2 <= highs[2]; w2++) {
                        for (int w3 = lows[3]; w3 <= highs[3]; w3++) {
                            tried[0] = w0;
                            tried[1] = w1;
                            tried[2] = w2;
                            tried[3] = w3;
                            holdIfLess(n, code);
                        }
                    }
                }
            }
        }

        private void holdIfLess(int n, int code) {
            int together = 0;
            for (int voter = 0; voter < MOST_VOTERS; voter++) {
                together += Math.abs(tried[voter]);
            }
            if (together < leastTogether && divides(tried, n, code)) {
                leastTogether = together;
                Setup.copyRow(tried, weights);
            }
        }

        private boolean divides(int[] row, int n, int code) {
            leastYes = BEYOND;
            greatestNo = -BEYOND;
            for (int lot = 0; lot < 1 << n; lot++) {
                int worth = worth(row, lot);
                if (Lots.says(code, lot) == 1) {
                    leastYes = Math.min(leastYes, worth);
                } else {
                    greatestNo = Math.max(greatestNo, worth);
                }
            }
            return leastYes > greatestNo;
        }
    }

    /** The functions that a function can become by MOVES, in the order of the fewest. */
    private static final class Orbit {
        /** Four VOTERS stand in 24 orders, each turned over or not (16), the function or its OPPOSITE (2). */
        private static final int MOST = 768;

        private static final int BITS_A_WORD = 32;

        private final int[] met = new int[65536 / BITS_A_WORD];
        private final int[] codes = new int[MOST];
        private final int[] steps = new int[MOST];
        int size = 0;

        Orbit() {
        }

        void spread(int n, int code) {
            forget();
            meet(code, 0);
            for (int at = 0; at < MOST && at < size; at++) {
                meetAllBeside(n, codes[at], steps[at] + 1);
            }
        }

        int stepsTo(int code) {
            for (int at = 0; at < size; at++) {
                if (codes[at] == code) {
                    return steps[at];
                }
            }
            return NO_SUCH;
        }

        private void forget() {
            for (int at = 0; at < size; at++) {
                met[codes[at] / BITS_A_WORD] = 0;
            }
            size = 0;
        }

        private void meetAllBeside(int n, int code, int step) {
            for (int voter = 0; voter < n; voter++) {
                meet(Lots.turned(code, voter), step);
            }
            for (int voter = 0; voter < n - 1; voter++) {
                meet(Lots.changedAbout(code, voter, voter + 1), step);
            }
            meet(Lots.dual(n, code), step);
            meet(Lots.opposite(n, code), step);
        }

        private void meet(int code, int step) {
            int word = code / BITS_A_WORD;
            int bit = 1 << (code % BITS_A_WORD);
            if ((met[word] & bit) != 0 || size >= MOST) {
                return;
            }
            met[word] |= bit;
            codes[size] = code;
            steps[size] = step;
            size++;
        }
    }

    /** How many TRADES a function has, and the first one. */
    private static final class Trades {
        int many = 0;
        final int[] first = new int[4];

        Trades() {
        }

        void find(int n, int code) {
            many = 0;
            for (int a = 0; a < 1 << n; a++) {
                for (int b = a; b < 1 << n; b++) {
                    if (Lots.says(code, a) == 1 && Lots.says(code, b) == 1) {
                        findFor(n, code, a, b);
                    }
                }
            }
        }

        /** Who is in just one of a and b must be in just one of c and d: c tells d. */
        private void findFor(int n, int code, int a, int b) {
            for (int c = 0; c < 1 << n; c++) {
                int d = a ^ b ^ c;
                boolean bothNo = Lots.says(code, c) == 0 && Lots.says(code, d) == 0;
                if (d >= c && bothNo && (a & b) == (c & d)) {
                    addTrade(a, b, c, d);
                }
            }
        }

        private void addTrade(int a, int b, int c, int d) {
            if (many == 0) {
                first[0] = a;
                first[1] = b;
                first[2] = c;
                first[3] = d;
            }
            many++;
        }
    }

    /**
     * TWINS of a function. The LOTS without VOTER 3 and those with it are looked at apart: CHOW NUMBERS fix how many
     * of each are yes, and the other VOTERS' numbers are sums over both, so that 256 and 256 halves stand for all.
     */
    private static final class Twins {
        private static final int HALF = 255;

        /** Of eight LOTS four have a VOTER, so two such numbers together stay one digit, and none borrows unseen. */
        private static final int BASE = 9;

        private final int[] manyOfKey = new int[BASE * BASE * BASE];

        Twins() {
        }

        int ofCode(int n, int code) {
            int without = code & HALF;
            int having = (code >> 8) & HALF;
            int due = key(without) + key(having);
            countKeys(Lots.allYes(n) & HALF, Integer.bitCount(without));
            int found = 0;
            for (int half = 0; half <= HALF; half++) {
                int rest = due - key(half);
                boolean asMany = Integer.bitCount(half) == Integer.bitCount(having);
                if (asMany && rest >= 0 && rest < manyOfKey.length) {
                    found += manyOfKey[rest];
                }
            }
            return found;
        }

        private void countKeys(int greatest, int yes) {
            for (int k = 0; k < manyOfKey.length; k++) {
                manyOfKey[k] = 0;
            }
            for (int half = 0; half <= greatest; half++) {
                if (Integer.bitCount(half) == yes) {
                    manyOfKey[key(half)]++;
                }
            }
        }

        /** How many LOTS of a half have VOTER 0, 1, 2: a digit each. */
        private static int key(int half) {
            int of0 = Integer.bitCount(half & Lots.with(0));
            int of1 = Integer.bitCount(half & Lots.with(1));
            int of2 = Integer.bitCount(half & Lots.with(2));
            return of0 + BASE * (of1 + BASE * of2);
        }
    }

    /** THE TEXT, and its CLAUSES once they are read: kinds are their first signs. */
    private static final class SetupText {
        static final int NO_FAULT = -1;

        private static final int MOST_SIGNS = 100, MOST_CLAUSES = 12, MOST_NAMED = 4;

        /** No sign is this: THE TEXT's end. */
        private static final int END = -1;

        private final int[] signs = new int[MOST_SIGNS];
        int length = 0;
        private int place = 0;
        final int[] kinds = new int[MOST_CLAUSES];
        final int[] firsts = new int[MOST_CLAUSES];
        final int[] seconds = new int[MOST_CLAUSES];
        int clauses = 0;

        SetupText() {
        }

        boolean append(int sign) {
            if (length >= MOST_SIGNS) {
                return false;
            }
            signs[length] = sign;
            length++;
            return true;
        }

        /** The FAULT's place, or NO_FAULT. */
        int parse() {
            place = 0;
            clauses = 0;
            for (int c = 0; c < MOST_CLAUSES; c++) {
                if (!takeClause(c)) {
                    return place;
                }
                clauses++;
                if (sign() == END) {
                    return NO_FAULT;
                }
                if (sign() != ';' || clauses == MOST_CLAUSES) {
                    return place;
                }
                place++;
            }
            return place;
        }

        private int sign() {
            return place < length && place < MOST_SIGNS ? signs[place] : END;
        }

        private boolean isDigit() {
            return sign() >= '0' && sign() <= '9';
        }

        /** Where it answers no, place is the FAULT's: so with all that takes. */
        private boolean takeClause(int c) {
            int kind = sign();
            kinds[c] = kind;
            switch (kind) {
                case 'n':
                case 't':
                    place++;
                    return takeDigit(firsts, c);
                case '+':
                case '-':
                    place++;
                    takeLot(c);
                    return true;
                case 'w':
                    place++;
                    return takeDigit(firsts, c) && takeNumber(seconds, c);
                case 'q':
                    place++;
                    return takeNumber(firsts, c);
                case 'x':
                    place++;
                    return takeDigit(firsts, c) && takeDigit(seconds, c);
                case 'g':
                case 'd':
                case 'o':
                case 'k':
                    place++;
                    return true;
                default:
                    return false;
            }
        }

        private boolean takeDigit(int[] row, int c) {
            if (!isDigit()) {
                return false;
            }
            row[c] = sign() - '0';
            place++;
            return true;
        }

        private boolean takeNumber(int[] row, int c) {
            boolean below = sign() == '-';
            if (below) {
                place++;
            }
            if (!isDigit()) {
                return false;
            }
            int number = sign() - '0';
            place++;
            if (isDigit()) {
                number = 10 * number + sign() - '0';
                place++;
            }
            row[c] = below ? -number : number;
            return true;
        }

        /** VOTERS that aren't there are bits all the same: they make a LOT that isn't there. */
        private void takeLot(int c) {
            firsts[c] = 0;
            for (int d = 0; d < MOST_NAMED && isDigit(); d++) {
                firsts[c] |= 1 << (sign() - '0');
                place++;
            }
        }
    }

    /** A row of items, each held as a long that is what its sort leaves of it. */
    private static final class Tape {
        static final int NO_SORT = -1, BYTES = 0, SHORTS = 1, INTS = 2, BOOLEANS = 4;
        static final int MOST_ITEMS = 60;

        int sort = NO_SORT;
        int size = 0;
        final long[] items = new long[MOST_ITEMS];

        Tape() {
        }

        void become(int newSort, int newSize) {
            sort = newSort;
            size = newSize;
            for (int i = 0; i < MOST_ITEMS; i++) {
                items[i] = 0;
            }
        }

        boolean holdsNothing() {
            return sort == NO_SORT;
        }

        boolean hasPlace(int i) {
            return i >= 0 && i < size;
        }

        /** Told without i + n, which could wrap around. */
        boolean hasStretch(int i, int n) {
            return n >= 0 && i >= 0 && i <= size - n;
        }

        long cut(long v) {
            switch (sort) {
                case BYTES:
                    return (byte) v;
                case SHORTS:
                    return (short) v;
                case INTS:
                    return (int) v;
                case BOOLEANS:
                    return v != 0 ? 1 : 0;
                default:
                    return v;
            }
        }
    }
}
