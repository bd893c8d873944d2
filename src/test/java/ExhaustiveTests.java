import java.util.List;
import java.util.Map;

/** What is asked of a function, for every function of 2, 3 and 4 VOTERS, against the plain model's tables. */
final class ExhaustiveTests {
    /** Fewer than the calls that a new object is promised for. */
    private static final int CODES_AN_OBJECT = 10;
    private static final int EACH_HOW_MANYTH = 53;

    private final Checks checks = new Checks("ExhaustiveTests");
    private WeighedLots x = new WeighedLots();

    public static void main(String[] args) {
        ExhaustiveTests tests = new ExhaustiveTests();
        for (int n = 2; n <= 4; n++) {
            tests.allCodes(n);
        }
        tests.texts();
        tests.checks.end();
    }

    private void allCodes(int n) {
        int all = 1 << (1 << n);
        for (int code = 0; code < all; code++) {
            if (code % CODES_AN_OBJECT == 0) {
                x = new WeighedLots();
                x.voters(n);
            }
            x.code(code);
            String where = n + " voters, code " + code + ": ";
            boolean[] g = PlainModel.ofCode(n, code);
            checks.due(where + "rising", x.told(5), PlainModel.rising(g) ? 1 : 0);
            checks.due(where + "twins", x.told(8), PlainModel.twins(n, code));
            leastWeights(n, code, where);
            trades(n, code, where);
            leastLots(g, where);
            voters(n, g, where);
            becomes(n, code, g, where);
            if (n < 4 || code % EACH_HOW_MANYTH == 0 || code < 300) {
                moves(n, code, where);
            }
        }
    }

    private void leastWeights(int n, int code, String where) {
        int[] row = PlainModel.leastRows(n).get(code);
        checks.due(where + "linear", x.told(7), row == null ? 0 : 1);
        checks.due(where + "least quota", x.least(), row == null ? -3 : row[n] + 100);
        for (int voter = 0; voter < n; voter++) {
            checks.due(where + "least weight of " + voter, x.weightOf(voter, 1), row == null ? -3 : row[voter] + 100);
        }
    }

    private void trades(int n, int code, String where) {
        List<int[]> all = PlainModel.trades(n, code);
        checks.due(where + "trades", x.trade(0), all.size());
        for (int k = 1; k <= 4; k++) {
            checks.due(where + "first trade, " + k, x.trade(k), all.isEmpty() ? -5 : all.get(0)[k - 1]);
        }
    }

    private void leastLots(boolean[] g, String where) {
        List<Integer> all = PlainModel.leastLots(g);
        checks.due(where + "least lots", x.told(9), all.size());
        for (int i = 0; i < all.size(); i++) {
            checks.due(where + "least lot " + i, x.leastLot(i), all.get(i));
        }
        checks.due(where + "no such least lot", x.leastLot(all.size()), -5);
    }

    private void voters(int n, boolean[] g, String where) {
        for (int voter = 0; voter < n; voter++) {
            checks.due(where + "swings of " + voter, x.swings(voter), PlainModel.swings(g, voter));
        }
    }

    private void becomes(int n, int code, boolean[] g, String where) {
        int dual = PlainModel.codeOf(PlainModel.dual(g));
        checks.due(where + "own dual", x.told(6), dual == code ? 1 : 0);
        checks.due(where + "dual", x.becomes(0), dual);
        checks.due(where + "dual twice", x.becomes(0), code);
        int voter = code % n;
        checks.due(where + "turned at " + voter, x.turn(voter), PlainModel.codeOf(PlainModel.turned(g, voter)));
        checks.due(where + "turned twice", x.turn(voter), code);
        int other = (voter + 1 + code / 7 % (n - 1)) % n;
        int changed = PlainModel.codeOf(PlainModel.changed(g, voter, other));
        checks.due(where + "changed about " + voter + ", " + other, x.exchange(voter, other), changed);
        checks.due(where + "changed twice", x.exchange(other, voter), code);
    }

    private void moves(int n, int code, String where) {
        Map<Integer, Integer> steps = PlainModel.stepsFrom(n, code);
        checks.due(where + "reached", x.told(10), steps.size());
        int greatest = (1 << (1 << n)) - 1;
        int near = steps.keySet().stream().skip(code % steps.size()).findFirst().orElse(code);
        for (int kept : new int[] {near, (code * 31 + 5) & greatest}) {
            x.code(kept);
            x.keep();
            x.code(code);
            checks.due(where + "steps to " + kept, x.told(11), steps.getOrDefault(kept, -5));
        }
    }

    /** Every text of up to three signs out of those that mean something, and one that doesn't. */
    private void texts() {
        String signs = "n+-wqgdotxk;049 ";
        int many = signs.length();
        for (int k = 0; k < many * many * many; k++) {
            String text = "" + signs.charAt(k % many) + signs.charAt(k / many % many) + signs.charAt(k / many / many);
            text("", text);
            text("w0", text);
            text("g;g;g;g;g;g;g;g;g;g;+012", text);
        }
    }

    private void text(String ahead, String behind) {
        WeighedLots real = new WeighedLots();
        PlainModel model = new PlainModel();
        for (char c : (ahead + behind).toCharArray()) {
            real.feed(c);
            model.feed(c);
        }
        checks.due("read " + ahead + behind, real.read(), model.read());
        for (int what = 0; what <= 4; what++) {
            checks.due("told " + what + " behind " + ahead + behind, real.told(what), model.told(what));
        }
        for (int voter = 0; voter < 4; voter++) {
            checks.due("weight behind " + ahead + behind, real.weightOf(voter, 0), model.weightOf(voter, 0));
        }
    }
}
