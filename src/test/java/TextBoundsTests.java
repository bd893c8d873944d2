/** Promises 12 and 13: how much THE TEXT holds, where a set-up's FAULT is, which CLAUSES are done and which aren't. */
final class TextBoundsTests extends Bounds {
    private static final String BEGINNERS = "n+-wqgdotxk";

    /** The longest CLAUSE there is. */
    private static final String LONGEST = "w0-09";

    public static void main(String[] args) {
        TextBoundsTests tests = new TextBoundsTests();
        tests.feed();
        tests.feedRefused();
        tests.emptied();
        tests.howManyClauses();
        tests.clauseVoters();
        tests.clauseLots();
        tests.clauseWeight();
        tests.clauseQuota();
        tests.clauseNumber();
        tests.clauseTurn();
        tests.clauseExchange();
        tests.clausesAlone();
        tests.nothingElse();
        tests.firstFault();
        tests.endsTooEarly();
        tests.doneInOrder();
        tests.faultDoesNothing();
        tests.end(12, 13);
    }

    private static int readText(WeighedLots x, String text) {
        State.feed(x, text);
        return x.read();
    }

    private void fault(String text, int place) {
        due("read " + shown(text), readText(new WeighedLots(), text), -10 - place);
    }

    private static String shown(String text) {
        StringBuilder made = new StringBuilder("\"");
        for (char c : text.toCharArray()) {
            made.append(c < ' ' || c > '~' ? "\\" + (int) c : String.valueOf(c));
        }
        return made.append('"').toString();
    }

    /** All CLAUSES of a text are refused: none is done, and nothing is changed. */
    private void refused(State state, String text) {
        WeighedLots x = emptyText(state);
        due(state + ": read " + shown(text), readText(x, text), 0);
        alike(state + ": behind " + shown(text), x, emptyText(state));
    }

    /** THE TEXT that waits is read, so that another can be fed. */
    private static WeighedLots emptyText(State state) {
        WeighedLots x = state.make();
        x.read();
        return x;
    }

    private void feed() {
        sentence(12, "A sign (0 .. 127) comes behind THE TEXT's: how many it has");
        WeighedLots x = new WeighedLots();
        due("feed(0)", x.feed(0), 1);
        due("feed(127)", x.feed(127), 2);
        due("feed(1)", x.feed(1), 3);
        due("feed(126)", x.feed(126), 4);
        sentence(12, "THE TEXT (bytes, 100 at most)");
        for (int many = 5; many <= 100; many++) {
            due("feed", x.feed('k'), many);
        }
        due("count(3)", x.count(3), 100);
        due("the 101st", x.feed('k'), FULL);
        due("count(3)", x.count(3), 100);
        due("the 102nd", x.feed('k'), FULL);
    }

    private void feedRefused() {
        sentence(12, "how many it has. BAD; FULL.");
        for (int sign : beyond(0, 127)) {
            changesNothing("feed(" + sign + ")", x -> x.feed(sign), BAD);
        }
        for (int sign : new int[] {0, 'k', ';', 127}) {
            changesNothing(State.CROWDED, "feed(" + sign + ")", x -> x.feed(sign), FULL);
        }
        WeighedLots x = new WeighedLots();
        State.feed(x, "k".repeat(99));
        due("the 100th", x.feed(127), 100);
        due("BAD ahead of FULL", x.feed(128), BAD);
        due("BAD ahead of FULL", x.feed(-1), BAD);
    }

    private void emptied() {
        sentence(13, "THE TEXT, which is empty then (by a FAULT, too), is a set-up");
        String[] texts = {"k", "z", "", "n9", "k;".repeat(50)};
        for (String text : texts) {
            WeighedLots x = new WeighedLots();
            State.feed(x, text);
            due("count(3) ahead of it", x.count(3), text.length());
            x.read();
            due("count(3) behind " + shown(text), x.count(3), 0);
            due("read() again", x.read(), -10);
            due("feed('+')", x.feed('+'), 1);
            due("read() of it", x.read(), 1);
        }
    }

    private void howManyClauses() {
        sentence(13, "CLAUSES, 1 to 12, with ; between");
        fault("", 0);
        fault(";", 0);
        for (int many = 1; many <= 12; many++) {
            WeighedLots x = new WeighedLots();
            due(many + " done", readText(x, "o" + ";o".repeat(many - 1)), many);
            due("CODE behind " + many, x.told(1), many % 2 == 1 ? 255 : 0);
        }
        fault("o" + ";o".repeat(12), 23);
        fault("o" + ";o".repeat(11) + ";", 23);
        fault("o;".repeat(50), 23);
        due("12 refused", readText(new WeighedLots(), "n9" + ";n9".repeat(11)), 0);
        fault("n9" + ";n9".repeat(12), 35);
        String longest = LONGEST + (";" + LONGEST).repeat(11);
        due("the longest", readText(new WeighedLots(), longest), 12);
        fault(longest + ";", 71);
        fault(longest + "0", 71);
        fault(longest + "k".repeat(29), 71);
        fault(longest.substring(0, 69), 69);
    }

    private void clauseVoters() {
        sentence(13, "n DIGIT (as voters())");
        for (int n = 2; n <= 4; n++) {
            WeighedLots x = State.THREE.make();
            x.read();
            due("n" + n, readText(x, "n" + n), 1);
            due("told(0)", x.told(0), n);
            due("told(1)", x.told(1), 0);
            due("told(4)", x.told(4), 101);
        }
        for (State state : State.values()) {
            for (String text : new String[] {"n0", "n1", "n5", "n9"}) {
                refused(state, text);
            }
        }
        fault("n", 1);
        fault("n/", 1);
        fault("n:", 1);
        fault("n;", 1);
        fault("n-2", 1);
        fault("n22", 2);
    }

    private void clauseLots() {
        sentence(13, "+ DIGITS, - DIGITS (0 to 4 VOTERS; for that LOT it is yes, no");
        String[] named = {"", "0", "3", "01", "23", "012", "123", "0123", "3210"};
        int[] lots = {0, 1, 8, 3, 12, 7, 14, 15, 15};
        for (int k = 0; k < named.length; k++) {
            WeighedLots x = new WeighedLots();
            x.voters(4);
            due("+" + named[k], readText(x, "+" + named[k]), 1);
            due("told(1)", x.told(1), 1 << lots[k]);
            due("+" + named[k] + " again", readText(x, "+" + named[k]), 1);
            due("told(1)", x.told(1), 1 << lots[k]);
            due("-" + named[k], readText(x, "-" + named[k]), 1);
            due("told(1)", x.told(1), 0);
            due("-" + named[k] + " again", readText(x, "-" + named[k]), 1);
        }
        fault("+01230", 5);
        fault("-01230", 5);
        fault("+0/", 2);
        fault("+0:", 2);
        fault("+-", 1);
        sentence(13, "refused, if one isn't there");
        for (State state : State.values()) {
            for (String sign : new String[] {"+", "-"}) {
                refused(state, sign + state.n);
                refused(state, sign + "0" + state.n);
                refused(state, sign + state.n + "0");
                refused(state, sign + "9");
                refused(state, sign + "0019");
                refused(state, sign + "8" + ";" + sign + "5");
            }
        }
    }

    private void clauseWeight() {
        sentence(13, "w DIGIT NUMBER (WEIGHT, as weight())");
        for (State state : State.values()) {
            WeighedLots x = emptyText(state);
            int last = state.n - 1;
            due(state + ": the greatest", readText(x, "w09;w" + last + "9"), 2);
            due(state + ": weightOf(0, 0)", x.weightOf(0, 0), 109);
            due(state + ": weightOf(the last, 0)", x.weightOf(last, 0), 109);
            due(state + ": the least", readText(x, "w0-9;w" + last + "-09"), 2);
            due(state + ": weightOf(0, 0)", x.weightOf(0, 0), 91);
            due(state + ": weightOf(the last, 0)", x.weightOf(last, 0), 91);
            for (String text : new String[] {"w010", "w0-10", "w099", "w0-99", "w90", "w" + state.n + "0"}) {
                refused(state, text);
            }
        }
        fault("w", 1);
        fault("w-1", 1);
        fault("w;", 1);
        fault("w0", 2);
        fault("w0;", 2);
        fault("w0-", 3);
        fault("w0--1", 3);
        fault("w0123", 4);
        fault("w0-123", 5);
    }

    private void clauseQuota() {
        sentence(13, "q NUMBER (QUOTA; refused, if it is beyond)");
        for (State state : State.values()) {
            WeighedLots x = emptyText(state);
            due(state + ": q40", readText(x, "q40"), 1);
            due(state + ": told(4)", x.told(4), 140);
            due(state + ": q-40", readText(x, "q-40"), 1);
            due(state + ": told(4)", x.told(4), 60);
            for (String text : new String[] {"q41", "q-41", "q99", "q-99"}) {
                refused(state, text);
            }
        }
        fault("q", 1);
        fault("q;", 1);
        fault("q-", 2);
        fault("q--4", 2);
        fault("q400", 3);
        fault("q-400", 4);
    }

    private void clauseNumber() {
        sentence(13, "NUMBER: perhaps - ahead, 1 or 2 digits");
        String[] numbers = {"0", "-0", "00", "-00", "9", "-9", "09", "-09", "10", "-10", "39", "-39"};
        int[] meant = {0, 0, 0, 0, 9, -9, 9, -9, 10, -10, 39, -39};
        for (int k = 0; k < numbers.length; k++) {
            WeighedLots x = new WeighedLots();
            due("q" + numbers[k], readText(x, "q" + numbers[k]), 1);
            due("told(4) behind q" + numbers[k], x.told(4), 100 + meant[k]);
        }
        fault("q/", 1);
        fault("q:", 1);
        fault("q1/", 2);
        fault("q1:", 2);
        fault("q1-", 2);
        fault("q+1", 1);
    }

    private void clauseTurn() {
        sentence(13, "t DIGIT (TURNED, as turn())");
        for (State state : State.values()) {
            WeighedLots x = emptyText(state);
            x.code(1);
            due(state + ": t0", readText(x, "t0"), 1);
            due(state + ": told(1)", x.told(1), 2);
            x.code(1);
            due(state + ": the last", readText(x, "t" + (state.n - 1)), 1);
            due(state + ": told(1)", x.told(1), 1 << (state.lots() / 2));
            refused(state, "t" + state.n);
            refused(state, "t9");
        }
        fault("t", 1);
        fault("t;", 1);
        fault("t00", 2);
        fault("t/", 1);
        fault("t:", 1);
    }

    private void clauseExchange() {
        sentence(13, "x DIGIT DIGIT (CHANGED ABOUT, as exchange())");
        for (State state : State.values()) {
            WeighedLots x = emptyText(state);
            int last = state.n - 1;
            x.code(2);
            due(state + ": the first and the last", readText(x, "x0" + last), 1);
            due(state + ": told(1)", x.told(1), 1 << (state.lots() / 2));
            due(state + ": the last and the first", readText(x, "x" + last + "0"), 1);
            due(state + ": told(1)", x.told(1), 2);
            refused(state, "x00;x" + last + last);
            refused(state, "x0" + state.n);
            refused(state, "x" + state.n + "0");
            refused(state, "x" + state.n + state.n);
            refused(state, "x99");
        }
        fault("x", 1);
        fault("x;", 1);
        fault("x0", 2);
        fault("x0;", 2);
        fault("x0/", 2);
        fault("x0:", 2);
        fault("x012", 3);
    }

    private void clausesAlone() {
        sentence(13, "g (as weigh()); d (THE FUNCTION becomes its DUAL); o (its OPPOSITE)");
        WeighedLots x = new WeighedLots();
        due("g", readText(x, "q0;g"), 2);
        due("told(1)", x.told(1), 255);
        due("d", readText(x, "d"), 1);
        due("told(1)", x.told(1), 0);
        due("o", readText(x, "o"), 1);
        due("told(1)", x.told(1), 255);
        x.code(1);
        due("d of LOT 0 alone", readText(x, "d"), 1);
        due("told(1)", x.told(1), 127);
        due("o of all but the last LOT", readText(x, "o"), 1);
        due("told(1)", x.told(1), 128);
        sentence(13, "k (as keep())");
        x.code(255);
        due("told(2)", x.told(2), 0);
        due("k", readText(x, "k"), 1);
        due("told(2)", x.told(2), 255);
        for (String clause : new String[] {"g", "d", "o", "k"}) {
            fault(clause + "0", 1);
            fault(clause + clause, 1);
        }
    }

    private void nothingElse() {
        sentence(13, "Nothing else stands between (no blanks)");
        for (char blank : new char[] {' ', '\t', '\n', '\r', 0, 127, ',', ':'}) {
            fault(blank + "g", 0);
            fault("g" + blank, 1);
            fault("g" + blank + ";g", 1);
            fault("g;" + blank + "g", 2);
            fault("n" + blank + "2", 1);
            fault("w0" + blank + "1", 2);
            fault("w0-" + blank + "1", 3);
            fault("x0" + blank + "1", 2);
            fault("+0" + blank + "1", 2);
        }
    }

    private void firstFault() {
        sentence(13, "The FAULT: the place of the first byte with which none begins so");
        for (char sign = 0; sign <= 127; sign++) {
            boolean begins = BEGINNERS.indexOf(sign) >= 0;
            boolean whole = "+-gdok".indexOf(sign) >= 0;
            if (whole) {
                due("read " + shown("" + sign), readText(new WeighedLots(), "" + sign), 1);
            } else {
                fault("" + sign, begins ? 1 : 0);
            }
            if (!begins) {
                fault("o;" + sign, 2);
            }
            if (sign != ';') {
                fault("o" + sign, 1);
            }
            boolean digit = sign >= '0' && sign <= '9';
            if (!digit) {
                fault("n" + sign, 1);
                fault("x1" + sign, 2);
            }
        }
        fault("z;zz", 0);
        fault("o;zz;z", 2);
    }

    private void endsTooEarly() {
        sentence(13, "(the end of THE TEXT, if it ends too early)");
        for (String early : new String[] {"n", "w", "w0", "w0-", "q", "q-", "t", "x", "x0", "o;", "-;", "w01;"}) {
            fault(early, early.length());
            fault("o;" + early, 2 + early.length());
            String ahead = "o;".repeat(10);
            fault(ahead + early, ahead.length() + early.length());
        }
        fault("o;".repeat(11) + "n", 23);
        fault("o;".repeat(11), 22);
    }

    private void doneInOrder() {
        sentence(13, "Without it they are done, one behind the other; those that would be refused aren't");
        WeighedLots x = new WeighedLots();
        due("refused, then done", readText(x, "+3;n4;+3;n2;+3"), 3);
        due("told(0)", x.told(0), 2);
        due("told(1)", x.told(1), 0);
        due("kept between", readText(x, "+;k;o;+01"), 4);
        due("told(2)", x.told(2), 1);
        due("told(1)", x.told(1), 14);
        due("the first refused", readText(x, "q41;q7;q-41"), 1);
        due("told(4)", x.told(4), 107);
    }

    private void faultDoesNothing() {
        sentence(13, "Without it they are done");
        for (State state : State.values()) {
            for (String text : new String[] {"n2;z", "n4;+0;k;q9;w05;", "g;d;o;t0;x01;k;k0", "-0" + ";o".repeat(12)}) {
                WeighedLots x = emptyText(state);
                int answer = readText(x, text);
                due(state + ": a FAULT in " + shown(text), answer <= -10 ? 1 : 0, 1);
                alike(state + ": behind " + shown(text), x, emptyText(state));
            }
            WeighedLots x = emptyText(state);
            due(state + ": read() of an empty THE TEXT", x.read(), -10);
            alike(state + ": behind it", x, emptyText(state));
        }
    }
}
