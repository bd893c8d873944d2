import java.util.function.ToLongFunction;

/** Promises 22 to 29 and 31 to 33: SEEN, EVENTS and the BOOK, empty and full; ODDS and MEAN; THE IMAGE. */
final class RowBoundsTests extends Bounds {
    public static void main(String[] args) {
        RowBoundsTests tests = new RowBoundsTests();
        tests.see();
        tests.seeRefused();
        tests.fits();
        tests.fitsExtremes();
        tests.fitsNoMore();
        tests.fitsRefused();
        tests.odds();
        tests.mean();
        tests.event();
        tests.eventRefused();
        tests.after();
        tests.afterNotThere();
        tests.book();
        tests.bookRefused();
        tests.looked();
        tests.image();
        tests.undo();
        tests.count();
        tests.end(22, 23, 24, 25, 26, 27, 28, 29, 31, 32, 33);
    }

    /** A call that empties rows, whatever the rest is. */
    private interface Emptying {
        int with(WeighedLots x, int rest);
    }

    private void empties(Emptying call, int what) {
        for (State state : State.values()) {
            for (int rest : new int[] {0, 1, 2, -1, 99, MIN, MAX}) {
                WeighedLots x = state.make();
                due(state + ": emptied, the rest " + rest, call.with(x, rest), 0);
                due(state + ": count(" + what + ")", x.count(what), 0);
                due(state + ": emptied again", call.with(x, rest), 0);
                for (int other = 0; other <= 3; other++) {
                    if (other != what) {
                        due(state + ": count(" + other + ")", x.count(other), state.make().count(other));
                    }
                }
                due(state + ": told(1)", x.told(1), state.make().told(1));
            }
        }
    }

    private void see() {
        sentence(22, "What is SEEN comes: how many there are");
        for (State state : State.values()) {
            WeighedLots x = state.make();
            x.see(-1, 0);
            for (int k = 1; k <= 6; k++) {
                due(state + ": row " + k, x.see(k % 2 == 0 ? 0 : state.lots() - 1, k % 2), k);
            }
            sentence(22, "SEEN told by hand: a LOT, whether (1, 0) it was yes (6 rows at most)");
            due(state + ": row 7", x.see(0, 0), FULL);
            due(state + ": count(0)", x.count(0), 6);
            due(state + ": row 7 again", x.see(0, 1), FULL);
            due(state + ": emptied", x.see(-1, 7), 0);
            due(state + ": row 1 anew", x.see(0, 0), 1);
        }
        sentence(22, "(lot -1: none then, 0, whatever the rest is)");
        empties((x, rest) -> x.see(-1, rest), 0);
        WeighedLots x = new WeighedLots();
        x.see(0, 0);
        x.see(-1, 0);
        due("what was SEEN is forgotten", x.fits(0), 81);
    }

    private void seeRefused() {
        sayingRefused(22, "see", (x, row) -> x.see(row[0], row[1]));
        sentence(22, "FULL: 6");
        changesNothing(State.CROWDED, "see(0, 0)", x -> x.see(0, 0), FULL);
        changesNothing(State.CROWDED, "see(7, 1)", x -> x.see(7, 1), FULL);
    }

    /** SEEN and the BOOK take a LOT and whether it is yes. */
    private interface Saying {
        int with(WeighedLots x, int[] row);
    }

    private static ToLongFunction<WeighedLots> saying(Saying call, int lot, int is) {
        return x -> call.with(x, new int[] {lot, is});
    }

    private void sayingRefused(int promise, String name, Saying call) {
        for (State state : State.values()) {
            sentence(promise, "NONE: lot");
            for (int lot : beyond(-1, state.lots() - 1)) {
                changesNothing(state, name + "(" + lot + ", 1)", saying(call, lot, 1), NONE);
            }
            for (int is : beyond(0, 1)) {
                sentence(promise, "NONE: lot; BAD: is (0, 1)");
                changesNothing(state, name + "(-2, " + is + ")", saying(call, -2, is), NONE);
                changesNothing(state, name + "(beyond, " + is + ")", saying(call, state.lots(), is), NONE);
                sentence(promise, "BAD: is (0, 1); FULL");
                changesNothing(state, name + "(0, " + is + ")", saying(call, 0, is), BAD);
                changesNothing(state, name + "(the last, " + is + ")", saying(call, state.lots() - 1, is), BAD);
            }
        }
    }

    private void fits() {
        sentence(23, "FITS: how many QUOTAS -40 .. 40 there are by which");
        WeighedLots x = new WeighedLots();
        due("nothing SEEN", x.fits(0), 81);
        due("nothing SEEN, the least", x.fits(1), 1);
        x.see(0, 1);
        due("WORTH 0 is yes", x.fits(0), 41);
        due("WORTH 0 is yes, the least", x.fits(1), 1);
        x.see(-1, 0);
        x.see(0, 0);
        due("WORTH 0 is no", x.fits(0), 40);
        due("WORTH 0 is no, the least", x.fits(1), 42);
        x.weight(0, 1);
        x.see(1, 1);
        due("just one", x.fits(0), 1);
        due("just one, the least", x.fits(1), 42);
        sentence(23, "41 more than the least of these (0: there is none)");
        x.weight(0, 0);
        due("none", x.fits(0), 0);
        due("none, the least", x.fits(1), 0);
        x.weight(0, -1);
        due("none, the other way", x.fits(0), 0);
        due("none, the other way, the least", x.fits(1), 0);
        x.see(-1, 0);
        x.see(7, 1);
        x.see(7, 0);
        due("one LOT yes and no", x.fits(0), 0);
        due("one LOT yes and no, the least", x.fits(1), 0);
    }

    private void fitsExtremes() {
        for (State state : State.values()) {
            int last = state.lots() - 1;
            int most = 9 * state.n;
            for (int sign = -1; sign <= 1; sign += 2) {
                WeighedLots x = state.make();
                x.see(-1, 0);
                for (int voter = 0; voter < state.n; voter++) {
                    x.weight(voter, sign * 9);
                }
                x.see(last, 1);
                due(state + ": the last LOT yes", x.fits(0), 41 + sign * most);
                due(state + ": the last LOT yes, the least", x.fits(1), 1);
                x.see(-1, 0);
                x.see(last, 0);
                due(state + ": the last LOT no", x.fits(0), 40 - sign * most);
                due(state + ": the last LOT no, the least", x.fits(1), 42 + sign * most);
            }
        }
    }

    private void fitsNoMore() {
        sentence(23, "(What is SEEN of a LOT that is no more is not so.)");
        for (int is = 0; is <= 1; is++) {
            WeighedLots x = new WeighedLots();
            x.voters(4);
            x.see(8, is);
            due("it is there", x.fits(0) > 0 ? 1 : 0, 1);
            x.voters(3);
            due("LOT 8 of three VOTERS, how many", x.fits(0), 0);
            due("LOT 8 of three VOTERS, the least", x.fits(1), 0);
            x.see(0, is);
            due("with another row behind it", x.fits(0), 0);
            x.see(-1, 0);
            x.see(7, is);
            due("LOT 7 is there", x.fits(0), is == 1 ? 41 : 40);
            x.voters(2);
            due("LOT 7 of two VOTERS", x.fits(0), 0);
            x.see(-1, 0);
            x.see(0, is);
            x.see(3, is);
            due("LOT 3 is there", x.fits(0), is == 1 ? 41 : 40);
            due("count(0)", x.count(0), 2);
        }
    }

    private void fitsRefused() {
        sentence(23, "1 41 more than the least (0). NONE.");
        for (int what : beyond(0, 1)) {
            changesNothing("fits(" + what + ")", x -> x.fits(what), NONE);
        }
        sentence(23, "what is asked changes nothing");
        for (State state : State.values()) {
            for (int k = 0; k <= 1; k++) {
                int what = k;
                changesNothing(state, "fits(" + what + ")", x -> x.fits(what), state.make().fits(what));
            }
        }
    }

    private void odds() {
        for (State state : State.values()) {
            sentence(24, "how likely one is a SWING: a fraction in lowest terms");
            for (int voter : new int[] {0, state.n - 1}) {
                WeighedLots x = state.make();
                x.code(0);
                due(state + ": never, above", x.odds(voter, 0), 0);
                due(state + ": never, below", x.odds(voter, 1), 1);
                x.code(state.notLinear());
                due(state + ": always, above", x.odds(voter, 0), 1);
                due(state + ": always, below", x.odds(voter, 1), 1);
                x.code(1);
                due(state + ": once, above", x.odds(voter, 0), 1);
                due(state + ": once, below", x.odds(voter, 1), state.lots() / 2);
                x.code(state.notLinear() ^ 1);
                due(state + ": all but once, above", x.odds(voter, 0), state.lots() / 2 - 1);
                due(state + ": all but once, below", x.odds(voter, 1), state.lots() / 2);
            }
            sentence(24, "NO: voter, part");
            for (int voter : beyond(0, state.n - 1)) {
                changesNothing(state, "odds(" + voter + ", 0)", x -> x.odds(voter, 0), NO);
                changesNothing(state, "odds(" + voter + ", 1)", x -> x.odds(voter, 1), NO);
            }
            for (int part : beyond(0, 1)) {
                changesNothing(state, "odds(0, " + part + ")", x -> x.odds(0, part), NO);
                changesNothing(state, "odds(the last, " + part + ")", x -> x.odds(state.n - 1, part), NO);
            }
            sentence(24, "what is asked changes nothing");
            changesNothing(state, "odds(0, 0)", x -> x.odds(0, 0), state.make().odds(0, 0));
        }
        sentence(24, "a fraction in lowest terms");
        WeighedLots x = State.FOUR.make();
        x.code(0x0001 | 0x8000);
        due("2 of 8, above", x.odds(3, 0), 1);
        due("2 of 8, below", x.odds(3, 1), 4);
        x.code(0x6996 ^ 0x8001);
        due("6 of 8, above", x.odds(3, 0), 3);
        due("6 of 8, below", x.odds(3, 1), 4);
    }

    private void mean() {
        for (State state : State.values()) {
            sentence(25, "MEAN: WORTH of all LOTS, together, by how many there are");
            WeighedLots x = state.make();
            meanOf(state, x, 9, 9 * state.n);
            sentence(25, "(below 0 above the line; 0 by 1)");
            meanOf(state, x, -9, -9 * state.n);
            meanOf(state, x, 0, 0);
            x.weight(0, 1);
            due(state + ": 1 by 2, above", x.mean(0), 1);
            due(state + ": 1 by 2, below", x.mean(1), 2);
            x.weight(0, -1);
            due(state + ": -1 by 2, above", x.mean(0), -1);
            due(state + ": -1 by 2, below", x.mean(1), 2);
            x.weight(1, 1);
            due(state + ": 1 and -1, above", x.mean(0), 0);
            due(state + ": 1 and -1, below", x.mean(1), 1);
            sentence(25, "what is asked changes nothing");
            changesNothing(state, "mean(0)", y -> y.mean(0), state.make().mean(0));
        }
        sentence(25, "NO: part");
        for (int part : beyond(0, 1)) {
            changesNothing("mean(" + part + ")", x -> x.mean(part), NO);
        }
    }

    /** Each VOTER is in half of all LOTS: MEAN is half of all WEIGHTS. */
    private void meanOf(State state, WeighedLots x, int weight, int together) {
        for (int voter = 0; voter < state.n; voter++) {
            x.weight(voter, weight);
        }
        boolean even = together % 2 == 0;
        due(state + ": all " + weight + ", above", x.mean(0), even ? together / 2 : together);
        due(state + ": all " + weight + ", below", x.mean(1), even ? 1 : 2);
    }

    private void event() {
        for (State state : State.values()) {
            sentence(26, "A row comes to EVENTS: how many there are");
            int[][] rows = {{0, 0}, {0, state.lots() - 1}, {1, 0}, {1, state.n - 1}, {2, 0}, {3, 0}, {3, state.n - 2},
                {0, 1}};
            WeighedLots x = state.make();
            x.event(-1, 0);
            for (int k = 0; k < rows.length; k++) {
                due(state + ": event(" + rows[k][0] + ", " + rows[k][1] + ")", x.event(rows[k][0], rows[k][1]), k + 1);
            }
            sentence(26, "8 rows at most");
            for (int[] row : rows) {
                due(state + ": the ninth", x.event(row[0], row[1]), FULL);
            }
            due(state + ": count(1)", x.count(1), 8);
            due(state + ": emptied", x.event(-1, 3), 0);
            due(state + ": anew", x.event(2, 0), 1);
        }
        sentence(26, "(what -1: none then, 0, whatever the rest is)");
        empties((x, rest) -> x.event(-1, rest), 1);
    }

    private void eventRefused() {
        for (State state : State.values()) {
            sentence(26, "NONE: what (0 .. 3)");
            for (int what : beyond(-1, 3)) {
                changesNothing(state, "event(" + what + ", 0)", x -> x.event(what, 0), NONE);
                changesNothing(state, "event(" + what + ", 1)", x -> x.event(what, 1), NONE);
            }
            eventNone(state, "LOT n", 0, state.lots() - 1);
            eventNone(state, "VOTER n", 1, state.n - 1);
            eventNone(state, "VOTERS n and n + 1", 3, state.n - 2);
            sentence(26, "BAD: n isn't 0 (2)");
            for (int n : beyond(0, 0)) {
                changesNothing(state, "event(2, " + n + ")", x -> x.event(2, n), BAD);
            }
        }
        sentence(26, "FULL: 8");
        for (int k = 0; k <= 3; k++) {
            int what = k;
            changesNothing(State.CROWDED, "event(" + what + ", 0)", x -> x.event(what, 0), FULL);
        }
    }

    private void eventNone(State state, String words, int what, int last) {
        sentence(26, words);
        for (int n : beyond(0, last)) {
            changesNothing(state, "event(" + what + ", " + n + ")", x -> x.event(what, n), NONE);
        }
    }

    private void after() {
        for (State state : State.values()) {
            WeighedLots x = state.make();
            x.event(-1, 0);
            x.code(1);
            sentence(27, "AFTER, behind all of it: CODE; whether it is LINEAR (1, 0)");
            due(state + ": no EVENTS, CODE", x.after(0), 1);
            due(state + ": no EVENTS, LINEAR", x.after(1), 1);
            due(state + ": no EVENTS, its own DUAL", x.after(2), 0);
            sentence(27, "0 LOT n is yes, if it was no, else no");
            x.event(0, state.lots() - 1);
            due(state + ": yes", x.after(0), 1 | (1 << (state.lots() - 1)));
            due(state + ": LINEAR", x.after(1), 0);
            x.event(0, 0);
            due(state + ": no", x.after(0), 1 << (state.lots() - 1));
            sentence(27, "1 it becomes what it is TURNED at VOTER n");
            x.event(1, state.n - 1);
            due(state + ": TURNED", x.after(0), 1 << (state.lots() / 2 - 1));
            sentence(27, "3 it is CHANGED ABOUT at VOTERS n and n + 1");
            x.event(3, state.n - 2);
            int behind = 1 << (state.lots() - 1 - state.lots() / 4);
            due(state + ": CHANGED ABOUT", x.after(0), behind);
            sentence(27, "2 its DUAL (n 0)");
            x.event(2, 0);
            due(state + ": DUAL", x.after(0), state.allYes() ^ (1 << (state.lots() / 4)));
            due(state + ": THE FUNCTION", x.told(1), 1);
        }
        sentence(27, "AFTER: what 0 CODE, 1 whether it is LINEAR, 2 whether it is its own DUAL. NONE.");
        for (int what : beyond(0, 2)) {
            changesNothing("after(" + what + ")", x -> x.after(what), NONE);
        }
        for (State state : State.values()) {
            for (int k = 0; k <= 2; k++) {
                int what = k;
                changesNothing(state, "after(" + what + ")", x -> x.after(what), state.make().after(what));
            }
        }
    }

    private void afterNotThere() {
        sentence(27, "what isn't there by then: nothing");
        int[][] gone = {{0, 4}, {0, 7}, {1, 2}, {3, 1}};
        for (int[] row : gone) {
            WeighedLots x = new WeighedLots();
            x.event(row[0], row[1]);
            x.event(0, 3);
            x.voters(2);
            x.code(2);
            String where = "event(" + row[0] + ", " + row[1] + ") and two VOTERS: ";
            due(where + "CODE", x.after(0), 10);
            due(where + "count(1)", x.count(1), 2);
        }
        int[][] there = {{0, 3}, {1, 1}, {3, 0}, {2, 0}};
        int[] codes = {8 + 2, 8, 4, 11};
        for (int k = 0; k < there.length; k++) {
            WeighedLots x = new WeighedLots();
            x.event(there[k][0], there[k][1]);
            x.voters(2);
            x.code(2);
            due("event(" + there[k][0] + ", " + there[k][1] + ") is there of two VOTERS", x.after(0), codes[k]);
        }
        WeighedLots x = new WeighedLots();
        x.voters(4);
        x.event(0, 8);
        x.event(1, 3);
        x.event(3, 2);
        x.voters(3);
        x.code(2);
        due("of four, and three VOTERS", x.after(0), 2);
        x.voters(4);
        x.code(2);
        due("and four again", x.after(0), (1 << 5) | 1);
    }

    private void book() {
        for (State state : State.values()) {
            sentence(28, "A row comes to the BOOK: how many there are");
            WeighedLots x = state.make();
            x.book(-1, 0);
            for (int k = 1; k <= 8; k++) {
                due(state + ": row " + k, x.book(k % 2 == 0 ? 0 : state.lots() - 1, k % 2), k);
            }
            sentence(28, "A BOOK told by hand: LOTS, whether (1, 0) they are yes (8 rows at most)");
            due(state + ": row 9", x.book(0, 0), FULL);
            due(state + ": count(2)", x.count(2), 8);
            due(state + ": row 9 again", x.book(0, 1), FULL);
            due(state + ": emptied", x.book(-1, 7), 0);
            due(state + ": row 1 anew", x.book(0, 0), 1);
        }
        sentence(28, "(lot -1: it is empty then, 0, whatever the rest is)");
        empties((x, rest) -> x.book(-1, rest), 2);
    }

    private void bookRefused() {
        sayingRefused(28, "book", (x, row) -> x.book(row[0], row[1]));
        sentence(28, "FULL: 8");
        changesNothing(State.CROWDED, "book(0, 0)", x -> x.book(0, 0), FULL);
        changesNothing(State.CROWDED, "book(7, 1)", x -> x.book(7, 1), FULL);
    }

    private void looked() {
        sentence(29, "the first of these rows whose LOT isn't there, or which is otherwise now (-5: none)");
        WeighedLots x = new WeighedLots();
        due("an empty BOOK", x.looked(), NO_SUCH);
        x.code(255);
        for (int k = 0; k < 8; k++) {
            x.book(k, 1);
        }
        due("all as now", x.looked(), NO_SUCH);
        for (int k = 7; k >= 0; k--) {
            x.say(k, 0);
            due("LOT " + k + " is otherwise", x.looked(), k);
        }
        x.code(127);
        due("the last row alone", x.looked(), 7);
        x.voters(2);
        x.code(15);
        due("LOT 4 isn't there", x.looked(), 4);
        x.say(3, 0);
        due("LOT 3 is otherwise", x.looked(), 3);
        for (int is = 0; is <= 1; is++) {
            WeighedLots y = new WeighedLots();
            y.book(4, is);
            y.voters(2);
            due("a LOT that isn't there, " + is, y.looked(), 0);
        }
        sentence(29, "what is asked changes nothing");
        for (State state : State.values()) {
            changesNothing(state, "looked()", y -> y.looked(), state.make().looked());
        }
    }

    private void image() {
        sentence(31, "THE IMAGE is taken: CODE");
        for (State state : State.values()) {
            WeighedLots x = state.make();
            due(state + ": image()", x.image(), state.make().told(1));
            x.code(state.allYes());
            due(state + ": of all yes", x.image(), state.allYes());
            x.code(0);
            due(state + ": the last one taken", x.undo(), state.allYes());
        }
        sentence(31, "THE IMAGE: n, THE FUNCTION, KEPT, WEIGHTS, the QUOTA, SEEN, EVENTS, the BOOK");
        for (State state : State.values()) {
            WeighedLots x = state.make();
            x.image();
            x.voters(state.n == 4 ? 2 : 4);
            x.code(5);
            x.keep();
            x.weight(1, -8);
            x.quota(-9);
            x.see(-1, 0);
            x.see(1, 0);
            x.event(-1, 0);
            x.event(0, 2);
            x.book(-1, 0);
            x.book(3, 1);
            due(state + ": undo()", x.undo(), state.make().told(1));
            WeighedLots other = state.make();
            other.image();
            alike(state + ": behind undo()", x, other);
        }
    }

    private void undo() {
        sentence(32, "STATE: there is none");
        changesNothing(State.NEW, "undo()", x -> x.undo(), STATE);
        WeighedLots none = new WeighedLots();
        none.code(9);
        none.undo();
        due("told(1) behind a refused undo()", none.told(1), 9);
        sentence(32, "All is as THE IMAGE: CODE");
        for (State state : State.values()) {
            if (state != State.NEW) {
                undone(state);
            }
        }
        WeighedLots x = new WeighedLots();
        due("THE IMAGE of a new object", x.image(), 0);
        x.voters(4);
        x.code(65535);
        x.see(15, 1);
        x.event(3, 2);
        x.book(15, 1);
        due("undo()", x.undo(), 0);
        WeighedLots fresh = new WeighedLots();
        fresh.image();
        alike("all is empty again", x, fresh);
    }

    private void undone(State state) {
        WeighedLots x = state.make();
        int code = 0x8EEC & state.allYes();
        due(state + ": undo()", x.undo(), code);
        due(state + ": told(0)", x.told(0), state.n);
        due(state + ": told(2)", x.told(2), 0x9665 & state.allYes());
        due(state + ": told(4)", x.told(4), 98);
        due(state + ": weightOf(0, 0)", x.weightOf(0, 0), 95);
        due(state + ": count(0)", x.count(0), 2);
        due(state + ": count(1)", x.count(1), 3);
        due(state + ": count(2)", x.count(2), 2);
        due(state + ": THE TEXT stays", x.count(3), state == State.CROWDED ? 100 : State.WAITING.length());
        due(state + ": TAPES stay", x.peek(0, 0), -1);
        x.code(1);
        x.weight(0, 7);
        due(state + ": undo() again", x.undo(), code);
        due(state + ": weightOf(0, 0) again", x.weightOf(0, 0), 95);
    }

    private void count() {
        sentence(33, "How many: 0 SEEN, 1 EVENTS, 2 of the BOOK, 3 bytes of THE TEXT");
        int[] most = {6, 8, 8, 100};
        for (int k = 0; k <= 3; k++) {
            int what = k;
            changesNothing(State.NEW, "count(" + what + ")", x -> x.count(what), 0);
            changesNothing(State.CROWDED, "count(" + what + ")", x -> x.count(what), most[what]);
        }
        sentence(33, "3 bytes of THE TEXT. BAD.");
        for (int what : beyond(0, 3)) {
            changesNothing("count(" + what + ")", x -> x.count(what), BAD);
        }
    }
}
