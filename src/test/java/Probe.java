import java.util.ArrayList;
import java.util.List;

/**
 * What an object answers to one long run of calls. THE TEXT, THE IMAGE and the rows told by hand can't be asked for:
 * they are carried out, come back to and tried with other functions and weights. So it changes the object.
 */
final class Probe {
    private static final int[] PLACES = {0, 1, 2, 3, 6, 7, 59, 60};
    private static final int[] CODES = {0, 0xFFFF, 0x0001, 0x0004, 0x8000, 0x80, 0x8, 0x6996, 0xCAFE};
    private static final long ALL_BYTES_UNLIKE = 0xFEDCBA9876A4B3C2L;

    private final WeighedLots x;
    private final List<String> answers = new ArrayList<>();

    private Probe(WeighedLots x) {
        this.x = x;
    }

    /** A row for each call: the call, and what was answered. */
    static List<String> of(WeighedLots x) {
        Probe probe = new Probe(x);
        probe.askAll();
        probe.tryTapes();
        probe.note("read()", x.read());
        probe.askAll();
        probe.tryRows();
        probe.note("undo()", x.undo());
        probe.askAll();
        probe.tryRows();
        return probe.answers;
    }

    private void note(String call, long answer) {
        answers.add(call + " answered " + answer);
    }

    private void askAll() {
        for (int what : new int[] {0, 1, 2, 3, 4, 7, 11}) {
            note("told(" + what + ")", x.told(what));
        }
        for (int voter = 0; voter < 4; voter++) {
            note("weightOf(" + voter + ", 0)", x.weightOf(voter, 0));
        }
        for (int what = 0; what < 4; what++) {
            note("count(" + what + ")", x.count(what));
        }
        note("fits(0)", x.fits(0));
        note("fits(1)", x.fits(1));
        note("after(0)", x.after(0));
        note("looked()", x.looked());
    }

    /** An item shows by what it keeps of a number of which sort its TAPE is. */
    private void tryTapes() {
        for (int tape = 0; tape < State.TAPES; tape++) {
            for (int i : PLACES) {
                note("peek(" + tape + ", " + i + ")", x.peek(tape, i));
            }
            note("item(" + tape + ", 0, ..)", x.item(tape, 0, ALL_BYTES_UNLIKE));
            note("peek(" + tape + ", 0)", x.peek(tape, 0));
        }
    }

    /** SEEN by weights with which each LOT has another WORTH, EVENTS and the BOOK by unlike functions. */
    private void tryRows() {
        for (int sign = -1; sign <= 1; sign += 2) {
            for (int voter = 0; voter < 4; voter++) {
                note("weight(" + voter + ", ..)", x.weight(voter, sign * (1 << voter)));
            }
            note("fits(0)", x.fits(0));
            note("fits(1)", x.fits(1));
        }
        int allYes = (1 << (1 << x.told(0))) - 1;
        for (int code : CODES) {
            note("code(" + (code & allYes) + ")", x.code(code & allYes));
            note("after(0)", x.after(0));
            note("looked()", x.looked());
        }
    }
}
