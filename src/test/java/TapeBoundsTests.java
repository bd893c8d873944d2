/** Promises 30 and 34 to 37: TAPES, their sorts, sizes and places, and what is JUDGED by them. */
final class TapeBoundsTests extends Bounds {
    private static final int BYTES = 0, SHORTS = 1, INTS = 2, LONGS = 3, BOOLEANS = 4;
    private static final int MOST = 60;

    public static void main(String[] args) {
        TapeBoundsTests tests = new TapeBoundsTests();
        tests.judge();
        tests.judgeRowEnds();
        tests.judgePlaces();
        tests.judgeRefused();
        tests.tape();
        tests.tapeNothing();
        tests.tapeRefused();
        tests.item();
        tests.itemBits();
        tests.itemRefused();
        tests.peek();
        tests.shift();
        tests.shiftOverlaps();
        tests.shiftRefused();
        tests.shiftPlaces();
        tests.end(30, 34, 35, 36, 37);
    }

    private void judge() {
        sentence(30, "the first LOT that is otherwise; -5: none");
        for (State state : State.values()) {
            int lots = state.lots();
            WeighedLots x = state.make();
            x.code(0);
            x.tape(5, BOOLEANS, lots);
            due(state + ": none, the row just long enough", x.judge(5, 0), NO_SUCH);
            for (int lot = lots - 1; lot >= 0; lot--) {
                x.item(5, lot, 1);
                due(state + ": LOT " + lot, x.judge(5, 0), lot);
            }
            x.code(state.allYes());
            due(state + ": none of all yes", x.judge(5, 0), NO_SUCH);
            x.say(lots - 1, 0);
            due(state + ": the last LOT", x.judge(5, 0), lots - 1);
            x.say(0, 0);
            due(state + ": LOT 0", x.judge(5, 0), 0);
            x.tape(5, BOOLEANS, MOST);
            x.code(0);
            due(state + ": none, at the row's end", x.judge(5, MOST - lots), NO_SUCH);
            due(state + ": one item too few", x.judge(5, MOST - lots + 1), 100 + lots - 1);
            due(state + ": one item left", x.judge(5, MOST - 1), 101);
            due(state + ": no item left", x.judge(5, MOST), 100);
        }
    }

    private void judgeRowEnds() {
        sentence(30, "100 and how many were looked at, if the row ends ahead of that");
        for (State state : State.values()) {
            for (int size = 0; size < state.lots(); size++) {
                WeighedLots x = state.make();
                x.code(0);
                x.tape(5, BOOLEANS, size);
                due(state + ": a row of " + size, x.judge(5, 0), 100 + size);
                due(state + ": a row of " + size + " from its end on", x.judge(5, size), 100);
                if (size > 0) {
                    due(state + ": a row of " + size + " from place 1 on", x.judge(5, 1), 100 + size - 1);
                    x.item(5, size - 1, 1);
                    due(state + ": otherwise ahead of the end of " + size, x.judge(5, 0), size - 1);
                }
            }
        }
    }

    private void judgePlaces() {
        for (State state : State.values()) {
            sentence(30, "(or the place is below 0");
            WeighedLots x = state.make();
            x.code(0);
            x.tape(5, BOOLEANS, MOST);
            for (int i : new int[] {-1, -2, -8, -16, -60, MIN, MIN + 1, MIN + 7}) {
                due(state + ": judge(5, " + i + ")", x.judge(5, i), 100);
            }
            sentence(30, "if the row ends ahead of that");
            for (int i : new int[] {60, 61, 64, 256, MAX, MAX - 1, MAX - 2, MAX - 7, MAX - 15, 1 << 30}) {
                due(state + ": judge(5, " + i + ")", x.judge(5, i), 100);
            }
            sentence(30, "or the TAPE holds nothing)");
            for (int i : new int[] {0, 1, -1, 60, MIN, MAX}) {
                changesNothing(state, "judge(5, " + i + ")", y -> y.judge(5, i), 100);
            }
        }
    }

    private void judgeRefused() {
        sentence(30, "NONE: tape");
        for (int tape : beyond(0, 5)) {
            changesNothing("judge(" + tape + ", 0)", x -> x.judge(tape, 0), NONE);
            changesNothing("judge(" + tape + ", -1)", x -> x.judge(tape, -1), NONE);
        }
        sentence(30, "CAST: it is no row of booleans");
        for (State state : State.values()) {
            for (int sort = BYTES; sort <= LONGS; sort++) {
                for (int size : new int[] {0, 1, MOST}) {
                    castOf(state, sort, size);
                }
            }
        }
        sentence(30, "what is asked changes nothing");
        for (State state : new State[] {State.TWO, State.THREE, State.FOUR, State.CROWDED}) {
            for (int i : new int[] {0, 1, -1, MAX}) {
                changesNothing(state, "judge(4, " + i + ")", x -> x.judge(4, i), state.make().judge(4, i));
                changesNothing(state, "judge(0, " + i + ")", x -> x.judge(0, i), CAST);
            }
        }
    }

    private void castOf(State state, int sort, int size) {
        WeighedLots x = state.make();
        x.tape(5, sort, size);
        for (int i : new int[] {0, 1, -1, size, MIN, MAX}) {
            due(state + ": sort " + sort + " of " + size + ", place " + i, x.judge(5, i), CAST);
        }
    }

    private void tape() {
        sentence(34, "A TAPE becomes a row of n (0 .. 60) of a sort, all 0");
        for (State state : State.values()) {
            for (int tape : new int[] {0, 4, 5}) {
                for (int sort = BYTES; sort <= BOOLEANS; sort++) {
                    WeighedLots x = state.make();
                    String where = state + ", TAPE " + tape + ", sort " + sort + ": ";
                    due(where + "of 60", x.tape(tape, sort, 60), 1);
                    for (int i = 0; i < 60; i++) {
                        due(where + "all 0", x.peek(tape, i), 0);
                    }
                    due(where + "no item 60", x.peek(tape, 60), NO);
                    x.item(tape, 0, 1);
                    x.item(tape, 59, 1);
                    due(where + "of 1", x.tape(tape, sort, 1), 1);
                    due(where + "all 0", x.peek(tape, 0), 0);
                    due(where + "no item 1", x.peek(tape, 1), NO);
                    due(where + "of 60 again", x.tape(tape, sort, 60), 1);
                    due(where + "all 0 again", x.peek(tape, 59), 0);
                    due(where + "of 0", x.tape(tape, sort, 0), 1);
                    due(where + "no item 0", x.peek(tape, 0), NO);
                    due(where + "no item 0, but a row", x.item(tape, 0, 1), PLACE);
                }
            }
        }
    }

    private void tapeNothing() {
        sentence(34, "or holds nothing (sort -1: n does not matter): 1");
        for (State state : State.values()) {
            for (int n : new int[] {0, 1, 60, 61, -1, MIN, MAX}) {
                WeighedLots x = state.make();
                for (int tape = 0; tape <= 5; tape++) {
                    due(state + ": tape(" + tape + ", -1, " + n + ")", x.tape(tape, -1, n), 1);
                    due(state + ": item", x.item(tape, 0, 1), NOTHING);
                    due(state + ": peek", x.peek(tape, 0), NO);
                }
                due(state + ": nothing again", x.tape(0, -1, n), 1);
                due(state + ": told(1)", x.told(1), state.make().told(1));
            }
        }
    }

    private void tapeRefused() {
        sentence(34, "NONE: tape");
        for (int tape : beyond(0, 5)) {
            changesNothing("tape(" + tape + ", 0, 1)", x -> x.tape(tape, 0, 1), NONE);
            changesNothing("tape(" + tape + ", -1, 0)", x -> x.tape(tape, -1, 0), NONE);
            changesNothing("tape(" + tape + ", 5, 61)", x -> x.tape(tape, 5, 61), NONE);
            changesNothing("tape(" + tape + ", 0, -1)", x -> x.tape(tape, 0, -1), NONE);
        }
        sentence(34, "BAD: sort, n above 60");
        for (int sort : beyond(-1, 4)) {
            changesNothing("tape(0, " + sort + ", 1)", x -> x.tape(0, sort, 1), BAD);
            changesNothing("tape(5, " + sort + ", 61)", x -> x.tape(5, sort, 61), BAD);
            changesNothing("tape(0, " + sort + ", -1), ahead of SIZE", x -> x.tape(0, sort, -1), BAD);
        }
        for (int k = BYTES; k <= BOOLEANS; k++) {
            int sort = k;
            sentence(34, "BAD: sort, n above 60");
            for (int n : new int[] {61, 62, 64, 100, 256, 65536, 1 << 30, MAX - 1, MAX}) {
                changesNothing("tape(0, " + sort + ", " + n + ")", x -> x.tape(0, sort, n), BAD);
            }
            sentence(34, "SIZE (-14): a size below 0");
            for (int n : new int[] {-1, -2, -60, -256, MIN / 2, MIN + 1, MIN, MIN + 60}) {
                changesNothing("tape(0, " + sort + ", " + n + ")", x -> x.tape(0, sort, n), SIZE);
                changesNothing("tape(5, " + sort + ", " + n + ")", x -> x.tape(5, sort, n), SIZE);
            }
        }
    }

    private void item() {
        sentence(35, "Item i of a TAPE becomes v");
        for (int tape : new int[] {0, 5}) {
            WeighedLots x = new WeighedLots();
            x.tape(tape, LONGS, 60);
            due("the first", x.item(tape, 0, 5), 1);
            due("the last", x.item(tape, 59, 6), 1);
            due("the first", x.peek(tape, 0), 5);
            due("the second", x.peek(tape, 1), 0);
            due("the last but one", x.peek(tape, 58), 0);
            due("the last", x.peek(tape, 59), 6);
        }
    }

    private void itemBits() {
        sentence(35, "(its lowest bits, as many as an item has; booleans: whether v is not 0)");
        long[] least = {-128, -32768, -2147483648L, Long.MIN_VALUE};
        long[] greatest = {127, 32767, 2147483647L, Long.MAX_VALUE};
        for (int sort = BYTES; sort <= LONGS; sort++) {
            WeighedLots x = new WeighedLots();
            x.tape(0, sort, 1);
            String where = "sort " + sort + ": ";
            becomes(x, where + "the least", least[sort], least[sort]);
            becomes(x, where + "the greatest", greatest[sort], greatest[sort]);
            becomes(x, where + "1 above the greatest", greatest[sort] + 1, least[sort]);
            becomes(x, where + "1 below the least", least[sort] - 1, greatest[sort]);
            becomes(x, where + "-1", -1, -1);
            becomes(x, where + "0", 0, 0);
            becomes(x, where + "all bits but the least one", -2, -2);
            becomes(x, where + "the greatest bit of a long", Long.MIN_VALUE, sort == LONGS ? Long.MIN_VALUE : 0);
        }
        WeighedLots x = new WeighedLots();
        x.tape(0, BOOLEANS, 1);
        for (long v : new long[] {1, -1, 2, 256, 65536, 1L << 32, Long.MIN_VALUE, Long.MAX_VALUE}) {
            becomes(x, "booleans: " + v, v, 1);
            becomes(x, "booleans: 0", 0, 0);
        }
    }

    private void becomes(WeighedLots x, String what, long given, long want) {
        due(what + ", item", x.item(0, 0, given), 1);
        due(what + ", peek", x.peek(0, 0), want);
    }

    private void itemRefused() {
        sentence(35, "NONE; NOTHING; PLACE.");
        for (int tape : beyond(0, 5)) {
            changesNothing("item(" + tape + ", 0, 1)", x -> x.item(tape, 0, 1), NONE);
            changesNothing("item(" + tape + ", -1, 1)", x -> x.item(tape, -1, 1), NONE);
        }
        for (int i : new int[] {0, 1, -1, 60, MIN, MAX}) {
            changesNothing("item(5, " + i + ", 1)", x -> x.item(5, i, 1), NOTHING);
        }
        for (State state : new State[] {State.TWO, State.THREE, State.FOUR, State.CROWDED}) {
            for (int k = BYTES; k <= BOOLEANS; k++) {
                int tape = k;
                int size = state == State.CROWDED ? 60 : 3 + tape;
                for (int i : beyond(0, size - 1)) {
                    changesNothing(state, "item(" + tape + ", " + i + ", 0)", x -> x.item(tape, i, 0), PLACE);
                }
            }
        }
        WeighedLots x = new WeighedLots();
        x.tape(0, INTS, 0);
        for (int i : new int[] {0, -1, 1, MIN, MAX}) {
            due("an empty row, item " + i, x.item(0, i, 1), PLACE);
        }
    }

    private void peek() {
        sentence(36, "Item i of a TAPE");
        WeighedLots y = State.CROWDED.make();
        for (int tape = BYTES; tape <= BOOLEANS; tape++) {
            due("the first of " + tape, y.peek(tape, 0), tape == BOOLEANS ? 1 : -1);
            due("the second of " + tape, y.peek(tape, 1), 0);
            due("the last of " + tape, y.peek(tape, 59), tape == BOOLEANS ? 1 : 77 + tape);
        }
        sentence(36, "NO: no such TAPE, nothing there, no such place");
        for (int tape : beyond(0, 5)) {
            changesNothing("peek(" + tape + ", 0)", x -> x.peek(tape, 0), NO);
        }
        for (int i : new int[] {0, 1, -1, 60, MIN, MAX}) {
            changesNothing("peek(5, " + i + ")", x -> x.peek(5, i), NO);
        }
        for (State state : new State[] {State.TWO, State.THREE, State.FOUR, State.CROWDED}) {
            for (int k = BYTES; k <= BOOLEANS; k++) {
                int tape = k;
                int size = state == State.CROWDED ? 60 : 3 + tape;
                for (int i : beyond(0, size - 1)) {
                    changesNothing(state, "peek(" + tape + ", " + i + ")", x -> x.peek(tape, i), NO);
                }
                changesNothing(state, "peek(" + tape + ", 0)", x -> x.peek(tape, 0), tape == BOOLEANS ? 1 : -1);
            }
        }
        WeighedLots x = new WeighedLots();
        x.tape(0, BYTES, 0);
        due("an empty row", x.peek(0, 0), NO);
    }

    /** A TAPE of ints 1, 2, .. */
    private static void count(WeighedLots x, int tape, int size) {
        x.tape(tape, INTS, size);
        for (int i = 0; i < size; i++) {
            x.item(tape, i, i + 1);
        }
    }

    private void items(WeighedLots x, int tape, String where, int... want) {
        for (int i = 0; i < want.length; i++) {
            due(where + ", item " + i, x.peek(tape, i), want[i]);
        }
        due(where + ", no item more", x.peek(tape, want.length), NO);
    }

    private void shift() {
        sentence(37, "n items of a TAPE from i on come to another one (or the same) from j on");
        WeighedLots x = new WeighedLots();
        count(x, 0, 4);
        x.tape(5, INTS, 3);
        due("0 items", x.shift(0, 0, 5, 0, 0), 0);
        items(x, 5, "0 items", 0, 0, 0);
        due("0 items from end to end", x.shift(0, 4, 5, 3, 0), 0);
        items(x, 5, "0 items from end to end", 0, 0, 0);
        due("the last", x.shift(0, 3, 5, 2, 1), 1);
        items(x, 5, "the last", 0, 0, 4);
        due("as many as there is room", x.shift(0, 1, 5, 0, 3), 3);
        items(x, 5, "as many as there is room", 2, 3, 4);
        due("all of the smaller one", x.shift(5, 0, 0, 1, 3), 3);
        items(x, 0, "all of the smaller one", 1, 2, 3, 4);
        due("all to itself", x.shift(0, 0, 0, 0, 4), 4);
        items(x, 0, "all to itself", 1, 2, 3, 4);
        x.tape(1, INTS, 0);
        x.tape(2, INTS, 0);
        due("of empty rows", x.shift(1, 0, 2, 0, 0), 0);
        due("within an empty row", x.shift(1, 0, 1, 0, 0), 0);
        WeighedLots y = new WeighedLots();
        count(y, 0, 60);
        y.tape(1, INTS, 60);
        due("60 items", y.shift(0, 0, 1, 0, 60), 60);
        due("the first of 60", y.peek(1, 0), 1);
        due("the last of 60", y.peek(1, 59), 60);
        for (int sort = BYTES; sort <= BOOLEANS; sort++) {
            y.tape(2, sort, 2);
            y.tape(3, sort, 2);
            y.item(2, 1, 1);
            due("sort " + sort, y.shift(2, 1, 3, 0, 1), 1);
            due("sort " + sort + ", item 0", y.peek(3, 0), 1);
            due("sort " + sort + ", item 1", y.peek(3, 1), 0);
        }
    }

    private void shiftOverlaps() {
        sentence(37, "as they all were before: n");
        WeighedLots x = new WeighedLots();
        count(x, 0, 5);
        due("one up", x.shift(0, 0, 0, 1, 4), 4);
        items(x, 0, "one up", 1, 1, 2, 3, 4);
        count(x, 0, 5);
        due("one down", x.shift(0, 1, 0, 0, 4), 4);
        items(x, 0, "one down", 2, 3, 4, 5, 5);
        count(x, 0, 5);
        due("two up", x.shift(0, 0, 0, 2, 3), 3);
        items(x, 0, "two up", 1, 2, 1, 2, 3);
        count(x, 0, 5);
        due("two down", x.shift(0, 2, 0, 0, 3), 3);
        items(x, 0, "two down", 3, 4, 5, 4, 5);
        count(x, 0, 60);
        due("one up of 60", x.shift(0, 0, 0, 1, 59), 59);
        due("the last of 60", x.peek(0, 59), 59);
        due("the second of 60", x.peek(0, 1), 1);
    }

    private void shiftRefused() {
        sentence(37, "NONE: tapes; NOTHING");
        for (int tape : beyond(0, 5)) {
            changesNothing("shift(" + tape + ", 0, 0, 0, 1)", x -> x.shift(tape, 0, 0, 0, 1), NONE);
            changesNothing("shift(0, 0, " + tape + ", 0, 1)", x -> x.shift(0, 0, tape, 0, 1), NONE);
            changesNothing("shift(5, -1, " + tape + ", -1, -1)", x -> x.shift(5, -1, tape, -1, -1), NONE);
            changesNothing("shift(" + tape + ", -1, 5, -1, -1)", x -> x.shift(tape, -1, 5, -1, -1), NONE);
        }
        sentence(37, "NOTHING; CAST: of unlike sorts");
        for (int n : new int[] {0, 1, -1, 61, MIN, MAX}) {
            changesNothing("shift(5, 0, 5, 0, " + n + ")", x -> x.shift(5, 0, 5, 0, n), NOTHING);
            changesNothing("shift(5, 0, 0, 0, " + n + ")", x -> x.shift(5, 0, 0, 0, n), NOTHING);
            changesNothing("shift(0, 0, 5, 0, " + n + ")", x -> x.shift(0, 0, 5, 0, n), NOTHING);
        }
        sentence(37, "CAST: of unlike sorts; PLACE");
        for (State state : new State[] {State.TWO, State.FOUR, State.CROWDED}) {
            for (int k = 0; k < 25; k++) {
                int tape = k / 5;
                int other = k % 5;
                for (int n : tape == other ? new int[0] : new int[] {0, 1, -1, MAX}) {
                    String call = "shift(" + tape + ", 0, " + other + ", 0, " + n + ")";
                    changesNothing(state, call, x -> x.shift(tape, 0, other, 0, n), CAST);
                }
            }
        }
    }

    private void shiftPlaces() {
        sentence(37, "PLACE: n, i or j is below 0, or beyond either's end");
        int[][] wrong = {{-1, 0, 1}, {0, -1, 1}, {0, 0, -1}, {MIN, 0, 0}, {0, MIN, 0}, {0, 0, MIN}, {-1, -1, -1},
            {-1, 0, 0}, {0, -1, 0}, {4, 0, 1}, {0, 3, 1}, {5, 0, 0}, {0, 4, 0}, {3, 0, 2}, {0, 2, 2}, {0, 0, 4},
            {1, 0, 4}, {0, 0, 60}, {0, 0, 61}, {MAX, 0, 1}, {MAX, 0, 0}, {0, MAX, 1}, {0, MAX, 0}, {0, 0, MAX},
            {1, 0, MAX},
            {0, 1, MAX}, {MAX, MAX, MAX}, {MAX, 0, MAX}, {2, 0, MAX - 1}, {0, 2, MAX - 1}, {MIN, MIN, MIN},
            {1, 1, MIN}, {MAX, 0, MIN}, {0, MAX, MIN}, {-1, 0, MAX}, {MIN, 0, MAX}, {-3, 0, 3}, {0, -3, 3}, {4, 3, -1}};
        for (int[] row : wrong) {
            String call = "shift(0, " + row[0] + ", 5, " + row[1] + ", " + row[2] + ")";
            WeighedLots x = twoTapes();
            due(call, x.shift(0, row[0], 5, row[1], row[2]), PLACE);
            alike("behind " + call, x, twoTapes());
        }
        WeighedLots x = twoTapes();
        due("within one, beyond its end", x.shift(0, 0, 0, 1, 4), PLACE);
        due("within one, from beyond", x.shift(0, 1, 0, 0, 4), PLACE);
        due("beyond the other's end alone", x.shift(0, 0, 5, 0, 4), PLACE);
        due("beyond its own end alone", x.shift(5, 0, 0, 0, 4), PLACE);
        alike("behind them", x, twoTapes());
    }

    /** TAPE 0 has four items, TAPE 5 three. */
    private static WeighedLots twoTapes() {
        WeighedLots x = State.FOUR.make();
        count(x, 0, 4);
        count(x, 5, 3);
        return x;
    }
}
