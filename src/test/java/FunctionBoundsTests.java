/** Promises 1 to 11: the bounds of VOTERS, LOTS, CODES, WEIGHTS and the QUOTA, and what is refused beyond them. */
final class FunctionBoundsTests extends Bounds {
    private static final int[] VOTERS_ALLOWED = {2, 3, 4};

    public static void main(String[] args) {
        FunctionBoundsTests tests = new FunctionBoundsTests();
        tests.newObject();
        tests.calls();
        tests.voters();
        tests.votersBad();
        tests.say();
        tests.sayRefused();
        tests.code();
        tests.weight();
        tests.weightRefused();
        tests.quota();
        tests.weigh();
        tests.becomes();
        tests.becomesLeast();
        tests.becomesRefused();
        tests.turn();
        tests.exchange();
        tests.exchangeRefused();
        tests.keep();
        tests.end(1, 2, 3, 4, 5, 6, 7, 8, 9, 10, 11);
    }

    private void newObject() {
        sentence(1, "Three VOTERS, all LOTS no.");
        WeighedLots x = new WeighedLots();
        due("told(0)", x.told(0), 3);
        for (int lot = 0; lot <= 7; lot++) {
            due("of(" + lot + ", 0)", x.of(lot, 0), 0);
        }
        due("of(8, 0)", x.of(8, 0), NONE);
        due("weightOf(2, 0)", x.weightOf(2, 0), 100);
        due("weightOf(3, 0)", x.weightOf(3, 0), NONE);
        sentence(1, "KEPT: a function (CODE 0 at first)");
        due("told(2)", x.told(2), 0);
        sentence(1, "WEIGHTS: a number for each VOTER (-9 .. 9; 0 at first), and a QUOTA (-40 .. 40; 1 at first)");
        for (int voter = 0; voter <= 2; voter++) {
            due("weightOf(" + voter + ", 0)", x.weightOf(voter, 0), 100);
        }
        due("told(4)", x.told(4), 101);
        sentence(1, "TAPES 0 .. 5 hold nothing (at first)");
        for (int tape = 0; tape <= 5; tape++) {
            due("item(" + tape + ", 0, 1)", x.item(tape, 0, 1), NOTHING);
        }
        due("item(6, 0, 1)", x.item(6, 0, 1), NONE);
        sentence(1, "How many: 0 SEEN, 1 EVENTS, 2 of the BOOK, 3 bytes of THE TEXT");
        for (int what = 0; what <= 3; what++) {
            due("count(" + what + ")", x.count(what), 0);
        }
    }

    private void calls() {
        sentence(1, "An object is used for at most 512 calls after it has been made");
        WeighedLots x = new WeighedLots();
        for (int call = 1; call < MOST_CALLS; call++) {
            due("call " + call, x.say(7, call % 2), 1 - call % 2);
        }
        due("call " + MOST_CALLS, x.told(1), 128);
    }

    private void voters() {
        sentence(2, "There are n VOTERS; all LOTS are no, KEPT is CODE 0, WEIGHTS are 0, the QUOTA is 1");
        for (State before : State.values()) {
            for (int n : VOTERS_ALLOWED) {
                WeighedLots x = before.make();
                String where = before + ", voters(" + n + "): ";
                due(where + "answer", x.voters(n), before.n);
                due(where + "told(0)", x.told(0), n);
                due(where + "told(1)", x.told(1), 0);
                due(where + "told(2)", x.told(2), 0);
                due(where + "told(4)", x.told(4), 101);
                for (int voter = 0; voter < 4; voter++) {
                    due(where + "weightOf(" + voter + ", 0)", x.weightOf(voter, 0), voter < n ? 100 : NONE);
                }
                due(where + "the last LOT", x.of((1 << n) - 1, 0), 0);
                due(where + "the first LOT beyond", x.of(1 << n, 0), NONE);
                due(where + "again", x.voters(n), n);
            }
        }
        votersTakeNothingBack();
    }

    private void votersTakeNothingBack() {
        WeighedLots x = State.FOUR.make();
        x.code(65535);
        x.keep();
        x.weight(3, 9);
        x.voters(2);
        x.voters(4);
        due("told(1) behind 4, 2, 4", x.told(1), 0);
        due("told(2) behind 4, 2, 4", x.told(2), 0);
        due("weightOf(3, 0) behind 4, 2, 4", x.weightOf(3, 0), 100);
    }

    private void votersBad() {
        sentence(2, "how many there were. BAD.");
        for (int n : beyond(2, 4)) {
            changesNothing("voters(" + n + ")", x -> x.voters(n), BAD);
        }
        sentence(2, "THE IMAGE: n, THE FUNCTION, KEPT, WEIGHTS, the QUOTA, SEEN, EVENTS, the BOOK");
        WeighedLots x = State.CROWDED.make();
        x.voters(2);
        due("count(0)", x.count(0), 6);
        due("count(1)", x.count(1), 8);
        due("count(2)", x.count(2), 8);
        due("count(3)", x.count(3), 100);
        due("peek(0, 59)", x.peek(0, 59), 77);
        due("undo()", x.undo(), 0xEC);
    }

    private void say() {
        sentence(3, "THE FUNCTION says yes (is 1) of a LOT, or no (0): what it said (1, 0)");
        for (int n : VOTERS_ALLOWED) {
            for (int lot : new int[] {0, 1, (1 << n) - 2, (1 << n) - 1}) {
                WeighedLots x = new WeighedLots();
                x.voters(n);
                String where = n + " VOTERS, LOT " + lot + ": ";
                due(where + "no to no", x.say(lot, 0), 0);
                due(where + "no to yes", x.say(lot, 1), 0);
                due(where + "CODE", x.told(1), 1 << lot);
                due(where + "yes to yes", x.say(lot, 1), 1);
                due(where + "CODE", x.told(1), 1 << lot);
                due(where + "yes to no", x.say(lot, 0), 1);
                due(where + "CODE", x.told(1), 0);
                x.code((1 << (1 << n)) - 1);
                due(where + "no among all yes", x.say(lot, 0), 1);
                due(where + "CODE", x.told(1), ((1 << (1 << n)) - 1) ^ (1 << lot));
            }
        }
    }

    private void sayRefused() {
        for (State state : State.values()) {
            sentence(3, "NONE: lot");
            for (int lot : beyond(0, state.lots() - 1)) {
                changesNothing(state, "say(" + lot + ", 1)", x -> x.say(lot, 1), NONE);
                changesNothing(state, "say(" + lot + ", 0)", x -> x.say(lot, 0), NONE);
            }
            sentence(3, "NONE: lot; BAD.");
            for (int is : beyond(0, 1)) {
                changesNothing(state, "say(0, " + is + ")", x -> x.say(0, is), BAD);
                changesNothing(state, "say(the last LOT, " + is + ")", x -> x.say(state.lots() - 1, is), BAD);
                changesNothing(state, "say(-1, " + is + ")", x -> x.say(-1, is), NONE);
                changesNothing(state, "say(beyond, " + is + ")", x -> x.say(state.lots(), is), NONE);
            }
        }
    }

    private void code() {
        sentence(4, "THE FUNCTION becomes that of a CODE: the CODE that was");
        for (State state : State.values()) {
            WeighedLots x = state.make();
            int before = x.told(1);
            due(state + ": all yes", x.code(state.allYes()), before);
            due(state + ": the last LOT", x.of(state.lots() - 1, 0), 1);
            due(state + ": LOT 0", x.of(0, 0), 1);
            due(state + ": all no", x.code(0), state.allYes());
            due(state + ": the last LOT", x.of(state.lots() - 1, 0), 0);
            due(state + ": LOT 0", x.of(0, 0), 0);
        }
        sentence(4, "BAD: beyond LOTS that are there, below 0");
        for (State state : State.values()) {
            for (int code : beyond(0, state.allYes())) {
                changesNothing(state, "code(" + code + ")", x -> x.code(code), BAD);
            }
        }
    }

    private void weight() {
        sentence(5, "WEIGHT of a VOTER becomes v: what it was, and 100");
        for (int n : VOTERS_ALLOWED) {
            for (int voter : new int[] {0, n - 1}) {
                WeighedLots x = new WeighedLots();
                x.voters(n);
                String where = n + " VOTERS, VOTER " + voter + ": ";
                due(where + "the greatest", x.weight(voter, 9), 100);
                due(where + "its WORTH", x.of(1 << voter, 3), 109);
                due(where + "the least", x.weight(voter, -9), 109);
                due(where + "its WORTH", x.of(1 << voter, 3), 91);
                due(where + "0", x.weight(voter, 0), 91);
                due(where + "weightOf", x.weightOf(voter, 0), 100);
            }
        }
    }

    private void weightRefused() {
        for (State state : State.values()) {
            sentence(5, "NONE: voter");
            for (int voter : beyond(0, state.n - 1)) {
                changesNothing(state, "weight(" + voter + ", 1)", x -> x.weight(voter, 1), NONE);
            }
            sentence(5, "NONE: voter; BAD.");
            for (int v : beyond(-9, 9)) {
                changesNothing(state, "weight(0, " + v + ")", x -> x.weight(0, v), BAD);
                changesNothing(state, "weight(the last, " + v + ")", x -> x.weight(state.n - 1, v), BAD);
                changesNothing(state, "weight(-1, " + v + ")", x -> x.weight(-1, v), NONE);
                changesNothing(state, "weight(beyond, " + v + ")", x -> x.weight(state.n, v), NONE);
            }
        }
    }

    private void quota() {
        sentence(6, "The QUOTA becomes v: what it was, and 100");
        WeighedLots x = new WeighedLots();
        due("quota(40)", x.quota(40), 101);
        due("quota(-40)", x.quota(-40), 140);
        due("quota(0)", x.quota(0), 60);
        due("quota(-1)", x.quota(-1), 100);
        due("quota(39)", x.quota(39), 99);
        due("quota(-39)", x.quota(-39), 139);
        due("told(4)", x.told(4), 61);
        sentence(6, "BAD");
        for (int v : beyond(-40, 40)) {
            changesNothing("quota(" + v + ")", y -> y.quota(v), BAD);
        }
    }

    private void weigh() {
        sentence(7, "WEIGHED: the function that is yes just for LOTS whose WORTH is the QUOTA or more");
        for (int n : VOTERS_ALLOWED) {
            int last = (1 << n) - 1;
            int allYes = (1 << (1 << n)) - 1;
            WeighedLots x = new WeighedLots();
            x.voters(n);
            String where = n + " VOTERS: ";
            due(where + "all WORTH 0, QUOTA 1", x.weigh(), 0);
            x.quota(0);
            due(where + "all WORTH 0, QUOTA 0", x.weigh(), allYes);
            weightsOfAll(x, n, 9);
            x.quota(9 * n);
            due(where + "just the greatest WORTH", x.weigh(), 1 << last);
            x.quota(9 * n + 1);
            due(where + "above the greatest WORTH", x.weigh(), 0);
            x.quota(-40);
            due(where + "the least QUOTA", x.weigh(), allYes);
            weightsOfAll(x, n, -9);
            x.quota(-9 * n);
            due(where + "just the least WORTH", x.weigh(), allYes);
            x.quota(-9 * n + 1);
            due(where + "above the least WORTH", x.weigh(), allYes ^ (1 << last));
            x.quota(40);
            due(where + "the greatest QUOTA", x.weigh(), 0);
            due(where + "told(1)", x.told(1), 0);
        }
    }

    private static void weightsOfAll(WeighedLots x, int n, int v) {
        for (int voter = 0; voter < n; voter++) {
            x.weight(voter, v);
        }
    }

    private void becomes() {
        sentence(8, "THE FUNCTION becomes its DUAL (how 0), its OPPOSITE (1)");
        for (State state : State.values()) {
            int last = state.lots() - 1;
            WeighedLots x = state.make();
            x.code(0);
            due(state + ": DUAL of all no", x.becomes(0), state.allYes());
            due(state + ": DUAL of all yes", x.becomes(0), 0);
            due(state + ": OPPOSITE of all no", x.becomes(1), state.allYes());
            due(state + ": OPPOSITE of all yes", x.becomes(1), 0);
            x.code(1);
            due(state + ": DUAL of LOT 0 alone", x.becomes(0), state.allYes() ^ (1 << last));
            due(state + ": DUAL back", x.becomes(0), 1);
            due(state + ": OPPOSITE of LOT 0 alone", x.becomes(1), state.allYes() ^ 1);
            x.code(1 << last);
            due(state + ": DUAL of the last LOT alone", x.becomes(0), state.allYes() ^ 1);
        }
    }

    private void becomesLeast() {
        sentence(8, "WEIGHTS and the QUOTA become LEAST ones (2)");
        for (State state : State.values()) {
            WeighedLots x = state.make();
            x.code(0);
            due(state + ": all no", x.becomes(2), 101);
            due(state + ": told(1)", x.told(1), 0);
            due(state + ": told(4)", x.told(4), 101);
            x.code(state.allYes());
            due(state + ": all yes", x.becomes(2), 100);
            due(state + ": told(1)", x.told(1), state.allYes());
            for (int voter = 0; voter < state.n; voter++) {
                due(state + ": weightOf(" + voter + ", 0)", x.weightOf(voter, 0), 100);
            }
            x.code(1 << (state.lots() - 1));
            due(state + ": the last LOT alone", x.becomes(2), 100 + state.n);
            x.code(1);
            due(state + ": LOT 0 alone", x.becomes(2), 100);
            due(state + ": weightOf(0, 0)", x.weightOf(0, 0), 99);
            due(state + ": WEIGHED", x.told(3), 1);
        }
    }

    private void becomesRefused() {
        sentence(8, "NONE: how");
        for (int how : beyond(0, 2)) {
            changesNothing("becomes(" + how + ")", x -> x.becomes(how), NONE);
        }
        sentence(8, "STATE: it isn't LINEAR (2)");
        for (State state : State.values()) {
            WeighedLots x = state.make();
            x.code(state.notLinear());
            due(state + ": becomes(2)", x.becomes(2), STATE);
            WeighedLots other = state.make();
            other.code(state.notLinear());
            alike(state + ": behind becomes(2)", x, other);
            WeighedLots linear = state.make();
            linear.code(state.notLinear());
            due(state + ": becomes(0)", linear.becomes(0) < 0 ? 1 : 0, 0);
            due(state + ": becomes(1)", linear.becomes(1) < 0 ? 1 : 0, 0);
        }
    }

    private void turn() {
        sentence(9, "for the LOT with that VOTER in it instead of out, or out instead of in");
        for (State state : State.values()) {
            for (int voter : new int[] {0, state.n - 1}) {
                WeighedLots x = state.make();
                x.code(1);
                due(state + ": in instead of out", x.turn(voter), 1 << (1 << voter));
                due(state + ": out instead of in", x.turn(voter), 1);
                int last = state.lots() - 1;
                x.code(1 << last);
                due(state + ": of the last LOT", x.turn(voter), 1 << (last - (1 << voter)));
                x.code(0);
                due(state + ": of all no", x.turn(voter), 0);
                x.code(state.allYes());
                due(state + ": of all yes", x.turn(voter), state.allYes());
            }
        }
        sentence(9, "its CODE. NONE.");
        for (State state : State.values()) {
            for (int voter : beyond(0, state.n - 1)) {
                changesNothing(state, "turn(" + voter + ")", x -> x.turn(voter), NONE);
            }
        }
    }

    private void exchange() {
        sentence(10, "It becomes what it is CHANGED ABOUT at two VOTERS: its CODE");
        for (State state : State.values()) {
            for (int i = 0; i < state.n; i++) {
                for (int j = 0; j < state.n; j++) {
                    if (i != j) {
                        exchanged(state, i, j);
                    }
                }
            }
        }
    }

    private void exchanged(State state, int i, int j) {
        String where = state + ", " + i + " and " + j + ": ";
        WeighedLots x = state.make();
        x.code(1 << (1 << i));
        due(where + "the one alone", x.exchange(i, j), 1 << (1 << j));
        due(where + "the other alone", x.exchange(i, j), 1 << (1 << i));
        int both = 1 << ((1 << i) | (1 << j));
        x.code(both | 1 | (1 << (state.lots() - 1)));
        due(where + "both, none, all", x.exchange(i, j), both | 1 | (1 << (state.lots() - 1)));
        x.code(state.allYes());
        due(where + "all yes", x.exchange(i, j), state.allYes());
        x.code(0);
        due(where + "all no", x.exchange(i, j), 0);
    }

    private void exchangeRefused() {
        for (State state : State.values()) {
            sentence(10, "NONE: either");
            for (int voter : beyond(0, state.n - 1)) {
                changesNothing(state, "exchange(" + voter + ", 0)", x -> x.exchange(voter, 0), NONE);
                changesNothing(state, "exchange(1, " + voter + ")", x -> x.exchange(1, voter), NONE);
                changesNothing(state, "exchange(" + voter + ", it)", x -> x.exchange(voter, voter), NONE);
            }
            sentence(10, "one twice");
            for (int k = 0; k < state.n; k++) {
                int voter = k;
                changesNothing(state, "exchange(" + voter + ", it)", x -> x.exchange(voter, voter), NONE);
            }
        }
    }

    private void keep() {
        sentence(11, "KEPT becomes THE FUNCTION: its CODE");
        for (State state : State.values()) {
            WeighedLots x = state.make();
            for (int code : new int[] {state.allYes(), 0, 1, 1 << (state.lots() - 1)}) {
                x.code(code);
                due(state + ": keep()", x.keep(), code);
                due(state + ": told(2)", x.told(2), code);
                due(state + ": told(1)", x.told(1), code);
                x.becomes(1);
                due(state + ": told(2) when THE FUNCTION changes", x.told(2), code);
            }
        }
    }
}
