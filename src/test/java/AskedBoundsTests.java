/** Promises 14 to 21: what is asked of LOTS, VOTERS and THE FUNCTION, at its least and its greatest. */
final class AskedBoundsTests extends Bounds {
    public static void main(String[] args) {
        AskedBoundsTests tests = new AskedBoundsTests();
        tests.of();
        tests.ofWorth();
        tests.ofRefused();
        tests.toldAll();
        tests.toldRising();
        tests.toldOwnDual();
        tests.toldTwins();
        tests.toldReached();
        tests.toldSteps();
        tests.toldRefused();
        tests.weightOf();
        tests.weightOfRefused();
        tests.least();
        tests.chow();
        tests.trade();
        tests.leastLot();
        tests.leastLotRefused();
        tests.swings();
        tests.askedAgain();
        tests.end(14, 15, 16, 17, 18, 19, 20, 21);
    }

    private static WeighedLots ofCode(State state, int code) {
        WeighedLots x = state.make();
        x.code(code);
        return x;
    }

    private void of() {
        sentence(14, "Of a LOT what THE FUNCTION says (what 0; 1, 0), KEPT (1), WEIGHED (2)");
        for (State state : State.values()) {
            int last = state.lots() - 1;
            WeighedLots x = ofCode(state, 1 << last);
            due(state + ": of(the last, 0)", x.of(last, 0), 1);
            due(state + ": of(0, 0)", x.of(0, 0), 0);
            x.keep();
            x.code(1);
            due(state + ": of(the last, 0)", x.of(last, 0), 0);
            due(state + ": of(0, 0)", x.of(0, 0), 1);
            due(state + ": of(the last, 1)", x.of(last, 1), 1);
            due(state + ": of(0, 1)", x.of(0, 1), 0);
            weightsOfAll(x, state.n, 1);
            x.quota(state.n);
            due(state + ": of(the last, 2), just the QUOTA", x.of(last, 2), 1);
            due(state + ": of(0, 2)", x.of(0, 2), 0);
            x.quota(state.n + 1);
            due(state + ": of(the last, 2), below the QUOTA", x.of(last, 2), 0);
            x.quota(0);
            due(state + ": of(0, 2), just the QUOTA", x.of(0, 2), 1);
        }
    }

    private void ofWorth() {
        sentence(14, "its WORTH, and 100 (3)");
        for (State state : State.values()) {
            int last = state.lots() - 1;
            WeighedLots x = state.make();
            weightsOfAll(x, state.n, 9);
            due(state + ": the greatest", x.of(last, 3), 100 + 9 * state.n);
            due(state + ": of LOT 0", x.of(0, 3), 100);
            weightsOfAll(x, state.n, -9);
            due(state + ": the least", x.of(last, 3), 100 - 9 * state.n);
            due(state + ": of LOT 0", x.of(0, 3), 100);
        }
    }

    private static void weightsOfAll(WeighedLots x, int n, int v) {
        for (int voter = 0; voter < n; voter++) {
            x.weight(voter, v);
        }
    }

    private void ofRefused() {
        sentence(14, "NONE: lot, what");
        for (State state : State.values()) {
            for (int lot : beyond(0, state.lots() - 1)) {
                for (int k = 0; k <= 4; k++) {
                    int what = k;
                    changesNothing(state, "of(" + lot + ", " + what + ")", x -> x.of(lot, what), NONE);
                }
            }
            for (int what : beyond(0, 3)) {
                changesNothing(state, "of(0, " + what + ")", x -> x.of(0, what), NONE);
                changesNothing(state, "of(the last, " + what + ")", x -> x.of(state.lots() - 1, what), NONE);
            }
        }
        sentence(14, "what is asked changes nothing");
        for (int k = 0; k <= 3; k++) {
            int what = k;
            changesNothing(State.NEW, "of(7, " + what + ")", x -> x.of(7, what), what == 3 ? 100 : 0);
        }
        changesNothing(State.FOUR, "of(15, 3)", x -> x.of(15, 3), 118);
        changesNothing(State.FOUR, "of(15, 2)", x -> x.of(15, 2), 1);
    }

    private void toldAll() {
        sentence(15, "0 n, 1 CODE, 2 CODE of KEPT, 3 that of WEIGHED, 4 the QUOTA, and 100");
        for (State state : State.values()) {
            WeighedLots x = ofCode(state, state.allYes());
            x.keep();
            weightsOfAll(x, state.n, 0);
            x.quota(40);
            int[] greatest = {state.n, state.allYes(), state.allYes(), 0, 140};
            for (int what = 0; what <= 4; what++) {
                due(state + ": told(" + what + ")", x.told(what), greatest[what]);
            }
            x.code(0);
            x.keep();
            x.quota(-40);
            int[] least = {state.n, 0, 0, state.allYes(), 60};
            for (int what = 0; what <= 4; what++) {
                due(state + ": told(" + what + ")", x.told(what), least[what]);
            }
        }
    }

    private void toldRising() {
        sentence(15, "RISING: if each LOT that has all VOTERS of a LOT that is yes is yes, too");
        for (State state : State.values()) {
            int last = 1 << (state.lots() - 1);
            due(state + ": all no", ofCode(state, 0).told(5), 1);
            due(state + ": all yes", ofCode(state, state.allYes()).told(5), 1);
            due(state + ": the last LOT alone", ofCode(state, last).told(5), 1);
            due(state + ": all but LOT 0", ofCode(state, state.allYes() - 1).told(5), 1);
            due(state + ": LOT 0 alone", ofCode(state, 1).told(5), 0);
            due(state + ": all but the last LOT", ofCode(state, state.allYes() ^ last).told(5), 0);
            due(state + ": all but LOT 1", ofCode(state, state.allYes() ^ 2).told(5), 0);
        }
    }

    private void toldOwnDual() {
        sentence(15, "6 its own DUAL, 7 LINEAR");
        for (State state : State.values()) {
            due(state + ": all no is no own DUAL", ofCode(state, 0).told(6), 0);
            due(state + ": all yes is no own DUAL", ofCode(state, state.allYes()).told(6), 0);
            due(state + ": all no is LINEAR", ofCode(state, 0).told(7), 1);
            due(state + ": all yes is LINEAR", ofCode(state, state.allYes()).told(7), 1);
            int withVoter0 = 0xAAAA & state.allYes();
            due(state + ": one VOTER's is its own DUAL", ofCode(state, withVoter0).told(6), 1);
            due(state + ": one LOT otherwise", ofCode(state, withVoter0 ^ 1).told(6), 0);
            due(state + ": the last LOT otherwise", ofCode(state, withVoter0 ^ (1 << (state.lots() - 1))).told(6), 0);
            due(state + ": odd LOTS aren't LINEAR", ofCode(state, state.notLinear()).told(7), 0);
        }
    }

    private void toldTwins() {
        sentence(15, "TWINS: how many functions of n VOTERS, THE FUNCTION among them, have its CHOW NUMBERS");
        for (State state : State.values()) {
            due(state + ": all no", ofCode(state, 0).told(8), 1);
            due(state + ": all yes", ofCode(state, state.allYes()).told(8), 1);
            due(state + ": LOT 0 alone", ofCode(state, 1).told(8), 1);
        }
        due("two VOTERS, the most", ofCode(State.TWO, 6).told(8), 2);
        due("three VOTERS, the most", ofCode(State.THREE, 60).told(8), 8);
        due("four VOTERS, the most", ofCode(State.FOUR, 4080).told(8), 222);
        sentence(15, "9 how many LEAST LOTS");
        for (State state : State.values()) {
            due(state + ": all no", ofCode(state, 0).told(9), 0);
            due(state + ": all yes", ofCode(state, state.allYes()).told(9), 1);
            due(state + ": the last LOT alone", ofCode(state, 1 << (state.lots() - 1)).told(9), 1);
        }
        due("four VOTERS, each two of them", ofCode(State.FOUR, 5736).told(9), 6);
    }

    private void toldReached() {
        sentence(15, "REACHED: how many functions THE FUNCTION can become by MOVES, itself among them");
        for (State state : State.values()) {
            due(state + ": all no", ofCode(state, 0).told(10), 2);
            due(state + ": all yes", ofCode(state, state.allYes()).told(10), 2);
            due(state + ": LOT 0 alone", ofCode(state, 1).told(10), 2 * state.lots());
            due(state + ": odd LOTS", ofCode(state, state.notLinear()).told(10), 2);
        }
        due("four VOTERS, the most", ofCode(State.FOUR, 301).told(10), 768);
    }

    private void toldSteps() {
        sentence(15, "STEPS: the fewest MOVES by which it becomes KEPT (-5: by none)");
        for (State state : State.values()) {
            due(state + ": already", steps(state, 1, 1), 0);
            due(state + ": the last already", steps(state, state.allYes(), state.allYes()), 0);
            due(state + ": all no to all yes", steps(state, 0, state.allYes()), 1);
            due(state + ": all yes to all no", steps(state, state.allYes(), 0), 1);
            due(state + ": LOT 0 to all no", steps(state, 1, 0), NO_SUCH);
            due(state + ": all no to LOT 0", steps(state, 0, 1), NO_SUCH);
            due(state + ": LOT 0 to LOT 1", steps(state, 1, 2), 1);
            int last = 1 << (state.lots() - 1);
            due(state + ": LOT 0 to the last LOT", steps(state, 1, last), 2);
            due(state + ": LOT 0 to all but the last LOT", steps(state, 1, state.allYes() ^ last), 1);
        }
        sentence(15, "CHANGED ABOUT at VOTERS i and i + 1");
        int[] having = {0xAAAA, 0xCCCC, 0xF0F0, 0xFF00};
        for (State state : State.values()) {
            int first = having[0] & state.allYes();
            int last = having[state.n - 1] & state.allYes();
            due(state + ": VOTER 0's to the last VOTER's", steps(state, first, last), state.n - 1);
            due(state + ": the last VOTER's to VOTER 0's", steps(state, last, first), state.n - 1);
            int nextToLast = having[state.n - 2] & state.allYes();
            due(state + ": the last two", steps(state, nextToLast, last), 1);
        }
    }

    private static int steps(State state, int code, int kept) {
        WeighedLots x = ofCode(state, kept);
        x.keep();
        x.code(code);
        return x.told(11);
    }

    private void toldRefused() {
        sentence(15, "11 STEPS (-5). NONE.");
        for (int what : beyond(0, 11)) {
            changesNothing("told(" + what + ")", x -> x.told(what), NONE);
        }
        sentence(15, "what is asked changes nothing");
        long[] ofNew = {3, 0, 0, 0, 101, 1, 0, 1, 1, 0, 2, 0};
        for (int k = 0; k < ofNew.length; k++) {
            int what = k;
            changesNothing(State.NEW, "told(" + what + ")", x -> x.told(what), ofNew[what]);
        }
        for (State state : State.values()) {
            for (int k = 0; k <= 11; k++) {
                int what = k;
                changesNothing(state, "told(" + what + ")", x -> x.told(what), state.make().told(what));
            }
        }
    }

    private void weightOf() {
        sentence(16, "WEIGHT of a VOTER (what 0), LEAST WEIGHT (1), each and 100");
        for (State state : State.values()) {
            for (int voter : new int[] {0, state.n - 1}) {
                WeighedLots x = ofCode(state, 0);
                x.weight(voter, 9);
                due(state + ": the greatest", x.weightOf(voter, 0), 109);
                due(state + ": LEAST of all no", x.weightOf(voter, 1), 100);
                x.weight(voter, -9);
                due(state + ": the least", x.weightOf(voter, 0), 91);
                x.code(state.allYes());
                due(state + ": LEAST of all yes", x.weightOf(voter, 1), 100);
                x.code(1);
                due(state + ": LEAST of LOT 0 alone", x.weightOf(voter, 1), 99);
            }
        }
        due("the greatest LEAST there is", ofCode(State.FOUR, 0xAA80).weightOf(0, 1), 103);
        due("the least LEAST there is", ofCode(State.FOUR, 0x0155).weightOf(0, 1), 97);
    }

    private void weightOfRefused() {
        for (State state : State.values()) {
            sentence(16, "NONE: voter, what");
            for (int voter : beyond(0, state.n - 1)) {
                changesNothing(state, "weightOf(" + voter + ", 0)", x -> x.weightOf(voter, 0), NONE);
                changesNothing(state, "weightOf(" + voter + ", 1)", x -> x.weightOf(voter, 1), NONE);
            }
            for (int what : beyond(0, 1)) {
                changesNothing(state, "weightOf(0, " + what + ")", x -> x.weightOf(0, what), NONE);
                changesNothing(state, "weightOf(the last, " + what + ")", x -> x.weightOf(state.n - 1, what), NONE);
            }
            sentence(16, "STATE: THE FUNCTION isn't LINEAR (1)");
            WeighedLots x = ofCode(state, state.notLinear());
            due(state + ": LEAST", x.weightOf(0, 1), STATE);
            due(state + ": LEAST of the last", x.weightOf(state.n - 1, 1), STATE);
            due(state + ": least()", x.least(), STATE);
            due(state + ": NONE ahead, voter", x.weightOf(state.n, 1), NONE);
            due(state + ": NONE ahead, what", x.weightOf(0, 2), NONE);
            alike(state + ": behind it", x, ofCode(state, state.notLinear()));
            WeighedLots weighs = ofCode(state, state.notLinear());
            due(state + ": WEIGHT all the same", weighs.weightOf(0, 0), state.make().weightOf(0, 0));
            sentence(16, "what is asked changes nothing");
            WeighedLots y = ofCode(state, 1);
            due(state + ": LEAST", y.weightOf(0, 1), 99);
            alike(state + ": behind it", y, ofCode(state, 1));
        }
    }

    private void least() {
        sentence(17, "if none is, 1 more than the greatest of one that is no");
        for (State state : State.values()) {
            due(state + ": all no", ofCode(state, 0).least(), 101);
            sentence(17, "LEAST QUOTA: by LEAST WEIGHTS the least WORTH of a LOT that is yes");
            due(state + ": all yes", ofCode(state, state.allYes()).least(), 100);
            due(state + ": the last LOT alone", ofCode(state, 1 << (state.lots() - 1)).least(), 100 + state.n);
            due(state + ": all but the last", ofCode(state, state.allYes() ^ (1 << (state.lots() - 1))).least(),
                101 - state.n);
            due(state + ": LOT 0 alone", ofCode(state, 1).least(), 100);
            sentence(17, "STATE: THE FUNCTION isn't LINEAR");
            WeighedLots x = ofCode(state, state.notLinear());
            due(state + ": least()", x.least(), STATE);
            alike(state + ": behind least()", x, ofCode(state, state.notLinear()));
            sentence(17, "what is asked changes nothing");
            WeighedLots y = ofCode(state, 1);
            due(state + ": least()", y.least(), 100);
            alike(state + ": behind least()", y, ofCode(state, 1));
        }
        due("the greatest there is", ofCode(State.FOUR, 34944).least(), 105);
        due("the least there is", ofCode(State.FOUR, 895).least(), 96);
    }

    private void chow() {
        for (State state : State.values()) {
            sentence(18, "CHOW NUMBER of a VOTER; of -1: how many LOTS are yes");
            int last = state.n - 1;
            due(state + ": all no, -1", ofCode(state, 0).chow(-1), 0);
            due(state + ": all no, the last", ofCode(state, 0).chow(last), 0);
            due(state + ": all yes, -1", ofCode(state, state.allYes()).chow(-1), state.lots());
            due(state + ": all yes, 0", ofCode(state, state.allYes()).chow(0), state.lots() / 2);
            due(state + ": all yes, the last", ofCode(state, state.allYes()).chow(last), state.lots() / 2);
            due(state + ": LOT 0 alone, -1", ofCode(state, 1).chow(-1), 1);
            due(state + ": LOT 0 alone, 0", ofCode(state, 1).chow(0), 0);
            due(state + ": the last LOT alone, -1", ofCode(state, 1 << (state.lots() - 1)).chow(-1), 1);
            due(state + ": the last LOT alone, the last", ofCode(state, 1 << (state.lots() - 1)).chow(last), 1);
            changesNothing(state, "chow(-1)", x -> x.chow(-1), Integer.bitCount(state.make().told(1)));
            changesNothing(state, "chow(0)", x -> x.chow(0), Integer.bitCount(state.make().told(1) & 0xAAAA));
            sentence(18, "NONE: voter");
            for (int voter : beyond(-1, last)) {
                changesNothing(state, "chow(" + voter + ")", x -> x.chow(voter), NONE);
            }
        }
    }

    private void trade() {
        sentence(19, "How many TRADES (what 0), LOTS a, b, c, d of the first one (1 .. 4; -5: there is none)");
        int[] first = {1, 2, 0, 3};
        for (State state : State.values()) {
            for (int code : new int[] {0, 1, state.allYes(), 1 << (state.lots() - 1)}) {
                due(state + ": none", ofCode(state, code).trade(0), 0);
                for (int what = 1; what <= 4; what++) {
                    due(state + ": none, trade(" + what + ")", ofCode(state, code).trade(what), NO_SUCH);
                }
            }
            int many = state.n == 2 ? 1 : state.n == 3 ? 6 : 40;
            due(state + ": odd LOTS", ofCode(state, state.notLinear()).trade(0), many);
            for (int what = 1; what <= 4; what++) {
                due(state + ": odd LOTS, " + what, ofCode(state, state.notLinear()).trade(what), first[what - 1]);
            }
        }
        tradeOfEvenLots();
        sentence(19, "there is none). NONE.");
        for (int what : beyond(0, 4)) {
            changesNothing("trade(" + what + ")", x -> x.trade(what), NONE);
        }
        sentence(19, "what is asked changes nothing");
        for (State state : State.values()) {
            WeighedLots x = ofCode(state, state.notLinear());
            due(state + ": trade(4)", x.trade(4), 3);
            alike(state + ": behind trade(4)", x, ofCode(state, state.notLinear()));
        }
    }

    private void tradeOfEvenLots() {
        int[] first = {0, 3, 1, 2};
        for (State state : State.values()) {
            WeighedLots x = ofCode(state, state.allYes() ^ state.notLinear());
            for (int what = 1; what <= 4; what++) {
                due(state + ": even LOTS, " + what, x.trade(what), first[what - 1]);
            }
        }
        WeighedLots x = ofCode(State.FOUR, (1 << 14) | (1 << 13));
        int[] last = {13, 14, 12, 15};
        due("among the last LOTS", x.trade(0), 1);
        for (int what = 1; what <= 4; what++) {
            due("among the last LOTS, " + what, x.trade(what), last[what - 1]);
        }
    }

    private void leastLot() {
        sentence(20, "LEAST LOT i (bits); -5: there are not as many");
        for (State state : State.values()) {
            int last = state.lots() - 1;
            due(state + ": all no", ofCode(state, 0).leastLot(0), NO_SUCH);
            due(state + ": all yes", ofCode(state, state.allYes()).leastLot(0), 0);
            due(state + ": all yes, 1", ofCode(state, state.allYes()).leastLot(1), NO_SUCH);
            due(state + ": the last LOT alone", ofCode(state, 1 << last).leastLot(0), last);
            due(state + ": the last LOT alone, 1", ofCode(state, 1 << last).leastLot(1), NO_SUCH);
            WeighedLots x = ofCode(state, state.notLinear());
            for (int voter = 0; voter < state.n; voter++) {
                due(state + ": odd LOTS, " + voter, x.leastLot(voter), 1 << voter);
            }
            for (int i : new int[] {state.n, state.n + 1, 16, 32, 64, MAX - 1, MAX}) {
                due(state + ": odd LOTS, " + i, x.leastLot(i), NO_SUCH);
            }
            alike(state + ": behind it", x, ofCode(state, state.notLinear()));
        }
        int[] twos = {3, 5, 6, 9, 10, 12};
        for (int i = 0; i < twos.length; i++) {
            due("each two of four, " + i, ofCode(State.FOUR, 5736).leastLot(i), twos[i]);
        }
        due("each two of four, 6", ofCode(State.FOUR, 5736).leastLot(6), NO_SUCH);
    }

    private void leastLotRefused() {
        sentence(20, "NONE: i below 0");
        for (int i : new int[] {-1, -2, -5, -32, -256, MIN, MIN + 1, MIN / 2}) {
            changesNothing("leastLot(" + i + ")", x -> x.leastLot(i), NONE);
        }
    }

    private void swings() {
        for (State state : State.values()) {
            sentence(21, "SWINGS of a VOTER: how many LOTS without that VOTER there are");
            for (int voter : new int[] {0, state.n - 1}) {
                due(state + ": all no", ofCode(state, 0).swings(voter), 0);
                due(state + ": all yes", ofCode(state, state.allYes()).swings(voter), 0);
                due(state + ": LOT 0 alone", ofCode(state, 1).swings(voter), 1);
                due(state + ": the last LOT alone", ofCode(state, 1 << (state.lots() - 1)).swings(voter), 1);
                WeighedLots x = ofCode(state, state.notLinear());
                due(state + ": odd LOTS", x.swings(voter), state.lots() / 2);
                alike(state + ": behind it", x, ofCode(state, state.notLinear()));
            }
            sentence(21, "SWINGS. NONE.");
            for (int voter : beyond(0, state.n - 1)) {
                changesNothing(state, "swings(" + voter + ")", x -> x.swings(voter), NONE);
            }
        }
    }

    /** What was asked of one function leaves nothing behind for the next. */
    private void askedAgain() {
        sentence(15, "what is asked changes nothing");
        for (State state : State.values()) {
            int[] codes = {state.notLinear(), 1, 0, state.allYes(), state.notLinear(), 0x8EEC & state.allYes(), 7, 7};
            WeighedLots x = state.make();
            for (int code : codes) {
                x.code(code);
                WeighedLots fresh = ofCode(state, code);
                for (int what = 5; what <= 11; what++) {
                    due(state + ", CODE " + code + ": told(" + what + ")", x.told(what), fresh.told(what));
                }
                for (int what = 0; what <= 4; what++) {
                    due(state + ", CODE " + code + ": trade(" + what + ")", x.trade(what), fresh.trade(what));
                }
                due(state + ", CODE " + code + ": least()", x.least(), fresh.least());
                due(state + ", CODE " + code + ": leastLot(0)", x.leastLot(0), fresh.leastLot(0));
                for (int voter = 0; voter < state.n; voter++) {
                    due(state + ", CODE " + code + ": weightOf", x.weightOf(voter, 1), fresh.weightOf(voter, 1));
                }
            }
        }
    }
}
