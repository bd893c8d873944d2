import java.lang.reflect.Array;
import java.util.ArrayDeque;
import java.util.ArrayList;
import java.util.Arrays;
import java.util.HashMap;
import java.util.List;
import java.util.Map;
import java.util.function.IntUnaryOperator;
import java.util.regex.Matcher;
import java.util.regex.Pattern;

/**
 * The document once more, in the dullest way there is: functions as rows of booleans, LOT by LOT, all weights tried,
 * all functions counted. It shares nothing with the class but the names of the calls.
 */
final class PlainModel {
    static final int NONE = -1, BAD = -2, STATE = -3, FULL = -4;
    static final long NO = Long.MIN_VALUE;

    private static final Pattern TEXT;

    static {
        String number = "-?[0-9]{1,2}";
        String clause = "(?:n[0-9]|[+-][0-9]{0,4}|w[0-9]" + number + "|q" + number + "|[gdok]|t[0-9]|x[0-9][0-9])";
        TEXT = Pattern.compile(clause + "(?:;" + clause + "){0,11}");
    }

    private int n = 3;
    private boolean[] f = new boolean[8];
    private boolean[] kept = new boolean[8];
    private int[] w = new int[3];
    private int q = 1;
    private List<int[]> seen = new ArrayList<>();
    private List<int[]> events = new ArrayList<>();
    private List<int[]> book = new ArrayList<>();
    private String text = "";
    private final Object[] tapes = new Object[6];
    private PlainModel image = null;

    // ---- functions, LOT by LOT

    static int codeOf(boolean[] g) {
        int code = 0;
        for (int lot = 0; lot < g.length; lot++) {
            if (g[lot]) {
                code += (int) Math.pow(2, lot);
            }
        }
        return code;
    }

    static boolean[] ofCode(int n, int code) {
        boolean[] g = new boolean[1 << n];
        for (int lot = 0; lot < g.length; lot++) {
            g[lot] = (code / (1 << lot)) % 2 == 1;
        }
        return g;
    }

    private static boolean[] from(boolean[] g, IntUnaryOperator where) {
        boolean[] h = new boolean[g.length];
        for (int lot = 0; lot < g.length; lot++) {
            h[lot] = g[where.applyAsInt(lot)];
        }
        return h;
    }

    static boolean[] opposite(boolean[] g) {
        boolean[] h = new boolean[g.length];
        for (int lot = 0; lot < g.length; lot++) {
            h[lot] = !g[lot];
        }
        return h;
    }

    static boolean[] dual(boolean[] g) {
        return opposite(from(g, lot -> g.length - 1 - lot));
    }

    static boolean[] turned(boolean[] g, int voter) {
        return from(g, lot -> has(lot, voter) ? lot - (1 << voter) : lot + (1 << voter));
    }

    static boolean[] changed(boolean[] g, int i, int j) {
        return from(g, lot -> {
            int other = lot;
            if (has(lot, i) && !has(lot, j)) {
                other = lot - (1 << i) + (1 << j);
            }
            if (has(lot, j) && !has(lot, i)) {
                other = lot - (1 << j) + (1 << i);
            }
            return other;
        });
    }

    static boolean has(int lot, int voter) {
        return (lot / (1 << voter)) % 2 == 1;
    }

    private int worth(int lot) {
        int together = 0;
        for (int voter = 0; voter < n; voter++) {
            together += has(lot, voter) ? w[voter] : 0;
        }
        return together;
    }

    private boolean[] weighed(int quota) {
        boolean[] g = new boolean[1 << n];
        for (int lot = 0; lot < g.length; lot++) {
            g[lot] = worth(lot) >= quota;
        }
        return g;
    }

    // ---- tables over all functions, made once

    private static final Map<Integer, Map<Integer, int[]>> LEAST = new HashMap<>();
    private static final Map<Integer, Map<List<Integer>, Integer>> CHOWS = new HashMap<>();

    /** For each LINEAR function: LEAST WEIGHTS, and the LEAST QUOTA behind them. Made weights first. */
    static Map<Integer, int[]> leastRows(int n) {
        return LEAST.computeIfAbsent(n, PlainModel::makeLeastRows);
    }

    private static Map<Integer, int[]> makeLeastRows(int n) {
        Map<Integer, int[]> rows = new HashMap<>();
        PlainModel m = new PlainModel();
        m.voters(n);
        int all = (int) Math.pow(9, n);
        for (int k = 0; k < all; k++) {
            int rest = k;
            for (int voter = n - 1; voter >= 0; voter--) {
                m.w[voter] = rest % 9 - 4;
                rest /= 9;
            }
            for (int quota = -17; quota <= 17; quota++) {
                boolean[] g = m.weighed(quota);
                int code = codeOf(g);
                int[] before = rows.get(code);
                if (before == null || size(m.w, n) < size(before, n)) {
                    int[] row = Arrays.copyOf(m.w, n + 1);
                    row[n] = m.leastQuota(g);
                    rows.put(code, row);
                }
            }
        }
        return rows;
    }

    private int leastQuota(boolean[] g) {
        int least = Integer.MAX_VALUE;
        int greatestNo = Integer.MIN_VALUE;
        for (int lot = 0; lot < g.length; lot++) {
            if (g[lot]) {
                least = Math.min(least, worth(lot));
            } else {
                greatestNo = Math.max(greatestNo, worth(lot));
            }
        }
        return least == Integer.MAX_VALUE ? greatestNo + 1 : least;
    }

    private static int size(int[] row, int n) {
        int together = 0;
        for (int voter = 0; voter < n; voter++) {
            together += Math.abs(row[voter]);
        }
        return together;
    }

    static List<Integer> chowRow(int n, int code) {
        boolean[] g = ofCode(n, code);
        Integer[] row = new Integer[n + 1];
        Arrays.fill(row, 0);
        for (int lot = 0; lot < g.length; lot++) {
            if (g[lot]) {
                row[n]++;
                for (int voter = 0; voter < n; voter++) {
                    row[voter] += has(lot, voter) ? 1 : 0;
                }
            }
        }
        return Arrays.asList(row);
    }

    static int twins(int n, int code) {
        Map<List<Integer>, Integer> many = CHOWS.computeIfAbsent(n, k -> {
            Map<List<Integer>, Integer> made = new HashMap<>();
            for (int c = 0; c < Math.pow(2, 1 << k); c++) {
                made.merge(chowRow(k, c), 1, Integer::sum);
            }
            return made;
        });
        return many.get(chowRow(n, code));
    }

    /** For each function that is come to: the fewest MOVES. */
    static Map<Integer, Integer> stepsFrom(int n, int code) {
        Map<Integer, Integer> steps = new HashMap<>();
        ArrayDeque<Integer> open = new ArrayDeque<>();
        steps.put(code, 0);
        open.add(code);
        while (!open.isEmpty()) {
            int at = open.remove();
            boolean[] g = ofCode(n, at);
            List<boolean[]> next = new ArrayList<>(List.of(dual(g), opposite(g)));
            for (int voter = 0; voter < n; voter++) {
                next.add(turned(g, voter));
                if (voter + 1 < n) {
                    next.add(changed(g, voter, voter + 1));
                }
            }
            for (boolean[] h : next) {
                if (steps.putIfAbsent(codeOf(h), steps.get(at) + 1) == null) {
                    open.add(codeOf(h));
                }
            }
        }
        return steps;
    }

    /** All TRADES in their order. */
    static List<int[]> trades(int n, int code) {
        boolean[] g = ofCode(n, code);
        List<int[]> found = new ArrayList<>();
        for (int a = 0; a < g.length; a++) {
            for (int b = a; b < g.length && g[a]; b++) {
                for (int c = 0; c < g.length && g[b]; c++) {
                    for (int d = c; d < g.length && !g[c]; d++) {
                        if (!g[d] && asOften(n, a, b, c, d)) {
                            found.add(new int[] {a, b, c, d});
                        }
                    }
                }
            }
        }
        return found;
    }

    private static boolean asOften(int n, int a, int b, int c, int d) {
        for (int voter = 0; voter < n; voter++) {
            int yes = (has(a, voter) ? 1 : 0) + (has(b, voter) ? 1 : 0);
            int no = (has(c, voter) ? 1 : 0) + (has(d, voter) ? 1 : 0);
            if (yes != no) {
                return false;
            }
        }
        return true;
    }

    static boolean rising(boolean[] g) {
        for (int lot = 0; lot < g.length; lot++) {
            for (int other = 0; other < g.length; other++) {
                if ((lot & other) == lot && g[lot] && !g[other]) {
                    return false;
                }
            }
        }
        return true;
    }

    static List<Integer> leastLots(boolean[] g) {
        List<Integer> found = new ArrayList<>();
        for (int lot = 0; lot < g.length; lot++) {
            boolean least = g[lot];
            for (int other = 0; other < g.length; other++) {
                least &= !(other != lot && (lot & other) == other && g[other]);
            }
            if (least) {
                found.add(lot);
            }
        }
        return found;
    }

    static int swings(boolean[] g, int voter) {
        int found = 0;
        for (int lot = 0; lot < g.length; lot++) {
            if (!has(lot, voter) && g[lot] != g[lot + (1 << voter)]) {
                found++;
            }
        }
        return found;
    }

    // ---- the calls

    private boolean lot(int lot) {
        return 0 <= lot && lot <= (1 << n) - 1;
    }

    private boolean voter(int voter) {
        return 0 <= voter && voter <= n - 1;
    }

    public int voters(int many) {
        if (many != 2 && many != 3 && many != 4) {
            return BAD;
        }
        int was = n;
        n = many;
        f = new boolean[1 << n];
        kept = new boolean[1 << n];
        w = new int[n];
        q = 1;
        return was;
    }

    public int say(int lot, int is) {
        if (!lot(lot)) {
            return NONE;
        }
        if (is != 0 && is != 1) {
            return BAD;
        }
        int was = f[lot] ? 1 : 0;
        f[lot] = is == 1;
        return was;
    }

    public int code(int code) {
        if (code < 0 || code >= Math.pow(2, 1 << n)) {
            return BAD;
        }
        int was = codeOf(f);
        f = ofCode(n, code);
        return was;
    }

    public int weight(int voter, int v) {
        if (!voter(voter)) {
            return NONE;
        }
        if (v < -9 || v > 9) {
            return BAD;
        }
        int was = w[voter];
        w[voter] = v;
        return 100 + was;
    }

    public int quota(int v) {
        if (v < -40 || v > 40) {
            return BAD;
        }
        int was = q;
        q = v;
        return 100 + was;
    }

    public int weigh() {
        f = weighed(q);
        return codeOf(f);
    }

    public int becomes(int how) {
        if (how == 0) {
            f = dual(f);
            return codeOf(f);
        }
        if (how == 1) {
            f = opposite(f);
            return codeOf(f);
        }
        if (how != 2) {
            return NONE;
        }
        int[] row = leastRows(n).get(codeOf(f));
        if (row == null) {
            return STATE;
        }
        w = Arrays.copyOf(row, n);
        q = row[n];
        return 100 + q;
    }

    public int turn(int voter) {
        if (!voter(voter)) {
            return NONE;
        }
        f = turned(f, voter);
        return codeOf(f);
    }

    public int exchange(int i, int j) {
        if (!voter(i) || !voter(j) || i == j) {
            return NONE;
        }
        f = changed(f, i, j);
        return codeOf(f);
    }

    public int keep() {
        kept = f.clone();
        return codeOf(kept);
    }

    public int feed(int sign) {
        if (sign < 0 || sign > 127) {
            return BAD;
        }
        if (text.length() == 100) {
            return FULL;
        }
        text += (char) sign;
        return text.length();
    }

    public int read() {
        String whole = text;
        text = "";
        if (!TEXT.matcher(whole).matches()) {
            return -10 - fault(whole);
        }
        int done = 0;
        for (String clause : whole.split(";")) {
            done += done(clause) ? 1 : 0;
        }
        return done;
    }

    /** The longest beginning with which a set-up could begin tells the FAULT. */
    private static int fault(String whole) {
        for (int end = 1; end <= whole.length(); end++) {
            Matcher m = TEXT.matcher(whole.substring(0, end));
            if (!m.matches() && !m.hitEnd()) {
                return end - 1;
            }
        }
        return whole.length();
    }

    private boolean done(String clause) {
        String rest = clause.substring(1);
        switch (clause.charAt(0)) {
            case 'n':
                return voters(Integer.parseInt(rest)) >= 0;
            case '+':
            case '-':
                int lot = 0;
                for (char c : rest.toCharArray()) {
                    if (!voter(c - '0')) {
                        return false;
                    }
                    lot |= 1 << (c - '0');
                }
                f[lot] = clause.charAt(0) == '+';
                return true;
            case 'w':
                return weight(rest.charAt(0) - '0', Integer.parseInt(rest.substring(1))) >= 0;
            case 'q':
                return quota(Integer.parseInt(rest)) >= 0;
            case 'g':
                f = weighed(q);
                return true;
            case 'd':
                f = dual(f);
                return true;
            case 'o':
                f = opposite(f);
                return true;
            case 't':
                return turn(Integer.parseInt(rest)) >= 0;
            case 'x':
                return exchange(rest.charAt(0) - '0', rest.charAt(1) - '0') >= 0;
            default:
                kept = f.clone();
                return true;
        }
    }

    public int of(int lot, int what) {
        if (!lot(lot) || what < 0 || what > 3) {
            return NONE;
        }
        if (what == 3) {
            return 100 + worth(lot);
        }
        boolean[][] all = {f, kept, weighed(q)};
        return all[what][lot] ? 1 : 0;
    }

    public int told(int what) {
        int code = codeOf(f);
        switch (what) {
            case 0: return n;
            case 1: return code;
            case 2: return codeOf(kept);
            case 3: return codeOf(weighed(q));
            case 4: return q + 100;
            case 5: return rising(f) ? 1 : 0;
            case 6: return Arrays.equals(f, dual(f)) ? 1 : 0;
            case 7: return leastRows(n).containsKey(code) ? 1 : 0;
            case 8: return twins(n, code);
            case 9: return leastLots(f).size();
            case 10: return stepsFrom(n, code).size();
            case 11: return stepsFrom(n, code).getOrDefault(codeOf(kept), -5);
            default: return NONE;
        }
    }

    public int weightOf(int voter, int what) {
        if (!voter(voter) || (what != 0 && what != 1)) {
            return NONE;
        }
        int[] row = what == 0 ? w : leastRows(n).get(codeOf(f));
        return row == null ? STATE : 100 + row[voter];
    }

    public int least() {
        int[] row = leastRows(n).get(codeOf(f));
        return row == null ? STATE : 100 + row[n];
    }

    public int chow(int voter) {
        if (voter != -1 && !voter(voter)) {
            return NONE;
        }
        return chowRow(n, codeOf(f)).get(voter == -1 ? n : voter);
    }

    public int trade(int what) {
        if (what < 0 || what > 4) {
            return NONE;
        }
        List<int[]> all = trades(n, codeOf(f));
        if (what == 0) {
            return all.size();
        }
        return all.isEmpty() ? -5 : all.get(0)[what - 1];
    }

    public int leastLot(int i) {
        if (i < 0) {
            return NONE;
        }
        List<Integer> all = leastLots(f);
        return i < all.size() ? all.get(i) : -5;
    }

    public int swings(int voter) {
        return voter(voter) ? swings(f, voter) : NONE;
    }

    public int see(int lot, int is) {
        return addRow(seen, 6, lot, is);
    }

    public int book(int lot, int is) {
        return addRow(book, 8, lot, is);
    }

    private int addRow(List<int[]> rows, int most, int lot, int is) {
        if (lot == -1) {
            rows.clear();
            return 0;
        }
        if (!lot(lot)) {
            return NONE;
        }
        if (is != 0 && is != 1) {
            return BAD;
        }
        if (rows.size() == most) {
            return FULL;
        }
        rows.add(new int[] {lot, is});
        return rows.size();
    }

    public int fits(int what) {
        if (what != 0 && what != 1) {
            return NONE;
        }
        List<Integer> found = new ArrayList<>();
        for (int quota = -40; quota <= 40; quota++) {
            boolean as = true;
            for (int[] row : seen) {
                as &= lot(row[0]) && (worth(row[0]) >= quota) == (row[1] == 1);
            }
            if (as) {
                found.add(quota);
            }
        }
        if (what == 0) {
            return found.size();
        }
        return found.isEmpty() ? 0 : found.get(0) + 41;
    }

    public long odds(int voter, int part) {
        if (!voter(voter) || (part != 0 && part != 1)) {
            return NO;
        }
        return lowest(swings(f, voter), 1 << (n - 1))[part];
    }

    public long mean(int part) {
        if (part != 0 && part != 1) {
            return NO;
        }
        int together = 0;
        for (int lot = 0; lot < 1 << n; lot++) {
            together += worth(lot);
        }
        return lowest(together, 1 << n)[part];
    }

    private static int[] lowest(int above, int below) {
        int divisor = java.math.BigInteger.valueOf(above).gcd(java.math.BigInteger.valueOf(below)).intValueExact();
        return new int[] {above / divisor, below / divisor};
    }

    public int event(int what, int m) {
        if (what == -1) {
            events.clear();
            return 0;
        }
        if (what < 0 || what > 3 || (what == 0 && !lot(m)) || (what == 1 && !voter(m))) {
            return NONE;
        }
        if (what == 3 && (!voter(m) || !voter(m + 1))) {
            return NONE;
        }
        if (what == 2 && m != 0) {
            return BAD;
        }
        if (events.size() == 8) {
            return FULL;
        }
        events.add(new int[] {what, m});
        return events.size();
    }

    public int after(int what) {
        boolean[] g = f.clone();
        for (int[] row : events) {
            if (row[0] == 0 && lot(row[1])) {
                g[row[1]] = !g[row[1]];
            } else if (row[0] == 1 && voter(row[1])) {
                g = turned(g, row[1]);
            } else if (row[0] == 2) {
                g = dual(g);
            } else if (row[0] == 3 && voter(row[1] + 1)) {
                g = changed(g, row[1], row[1] + 1);
            }
        }
        switch (what) {
            case 0: return codeOf(g);
            case 1: return leastRows(n).containsKey(codeOf(g)) ? 1 : 0;
            case 2: return Arrays.equals(g, dual(g)) ? 1 : 0;
            default: return NONE;
        }
    }

    public int looked() {
        for (int r = 0; r < book.size(); r++) {
            int lot = book.get(r)[0];
            if (!lot(lot) || f[lot] != (book.get(r)[1] == 1)) {
                return r;
            }
        }
        return -5;
    }

    private static boolean isTape(int tape) {
        return 0 <= tape && tape < 6;
    }

    public int judge(int tape, int i) {
        if (!isTape(tape)) {
            return NONE;
        }
        if (tapes[tape] == null) {
            return 100;
        }
        if (!(tapes[tape] instanceof boolean[])) {
            return -12;
        }
        boolean[] row = (boolean[]) tapes[tape];
        for (int lot = 0; lot < 1 << n; lot++) {
            if (i < 0 || (long) i + lot >= row.length) {
                return 100 + lot;
            }
            if (row[i + lot] != f[lot]) {
                return lot;
            }
        }
        return -5;
    }

    public int image() {
        image = new PlainModel();
        image.take(this);
        return codeOf(f);
    }

    public int undo() {
        if (image == null) {
            return STATE;
        }
        take(image);
        return codeOf(f);
    }

    private void take(PlainModel other) {
        n = other.n;
        f = other.f.clone();
        kept = other.kept.clone();
        w = other.w.clone();
        q = other.q;
        seen = new ArrayList<>(other.seen);
        events = new ArrayList<>(other.events);
        book = new ArrayList<>(other.book);
    }

    public int count(int what) {
        if (what < 0 || what > 3) {
            return BAD;
        }
        return List.of(seen.size(), events.size(), book.size(), text.length()).get(what);
    }

    public int tape(int tape, int sort, int many) {
        if (!isTape(tape)) {
            return NONE;
        }
        if (sort == -1) {
            tapes[tape] = null;
            return 1;
        }
        if (sort < -1 || sort > 4 || many > 60) {
            return BAD;
        }
        if (many < 0) {
            return -14;
        }
        Class<?>[] sorts = {byte.class, short.class, int.class, long.class, boolean.class};
        tapes[tape] = Array.newInstance(sorts[sort], many);
        return 1;
    }

    public int item(int tape, int i, long v) {
        if (!isTape(tape)) {
            return NONE;
        }
        Object row = tapes[tape];
        if (row == null) {
            return -11;
        }
        if (i < 0 || i >= Array.getLength(row)) {
            return -13;
        }
        if (row instanceof byte[]) {
            ((byte[]) row)[i] = (byte) v;
        } else if (row instanceof short[]) {
            ((short[]) row)[i] = (short) v;
        } else if (row instanceof int[]) {
            ((int[]) row)[i] = (int) v;
        } else if (row instanceof long[]) {
            ((long[]) row)[i] = v;
        } else {
            ((boolean[]) row)[i] = v != 0;
        }
        return 1;
    }

    public long peek(int tape, int i) {
        if (!isTape(tape) || tapes[tape] == null || i < 0 || i >= Array.getLength(tapes[tape])) {
            return NO;
        }
        Object row = tapes[tape];
        if (row instanceof boolean[]) {
            return ((boolean[]) row)[i] ? 1 : 0;
        }
        return Array.getLong(row, i);
    }

    public int shift(int tape, int i, int other, int j, int many) {
        if (!isTape(tape) || !isTape(other)) {
            return NONE;
        }
        Object from = tapes[tape];
        Object to = tapes[other];
        if (from == null || to == null) {
            return -11;
        }
        if (from.getClass() != to.getClass()) {
            return -12;
        }
        if (many < 0 || i < 0 || j < 0 || (long) i + many > Array.getLength(from)
                || (long) j + many > Array.getLength(to)) {
            return -13;
        }
        System.arraycopy(from, i, to, j, many);
        return many;
    }
}
