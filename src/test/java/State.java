/**
 * States that a run of calls leads to. Each is made anew, so that two objects of one state are alike in all that they
 * answer; in all but NEW there is something everywhere, and THE IMAGE holds something else than there is now.
 */
enum State {
    NEW(3), TWO(2), THREE(3), FOUR(4), CROWDED(3);

    static final int MOST_SEEN = 6, MOST_EVENTS = 8, MOST_BOOK = 8, MOST_SIGNS = 100, MOST_ITEMS = 60, TAPES = 6;

    /** THE TEXT that waits to be read in all but NEW and CROWDED. */
    static final String WAITING = "w0-7;q-3;+1;k;t0";

    final int n;

    State(int n) {
        this.n = n;
    }

    int lots() {
        return 1 << n;
    }

    int allYes() {
        return (1 << lots()) - 1;
    }

    /** The function that no weights tell: yes for LOTS of an odd number of VOTERS. */
    int notLinear() {
        return n == 2 ? 6 : n == 3 ? 150 : 27030;
    }

    WeighedLots make() {
        WeighedLots x = new WeighedLots();
        if (this == NEW) {
            return x;
        }
        x.voters(n);
        imageOf(x);
        x.image();
        changeAll(x);
        feed(x, this == CROWDED ? "k;".repeat(MOST_SIGNS / 2) : WAITING);
        fillTapes(x);
        if (this == CROWDED) {
            crowd(x);
        }
        return x;
    }

    private void imageOf(WeighedLots x) {
        x.code(0x9665 & allYes());
        x.keep();
        x.code(0x8EEC & allYes());
        for (int voter = 0; voter < n; voter++) {
            x.weight(voter, voter * 4 - 5);
        }
        x.quota(-2);
        x.see(0, 1);
        x.see(lots() - 1, 0);
        x.event(0, lots() - 1);
        x.event(3, n - 2);
        x.event(2, 0);
        x.book(0, 0);
        x.book(lots() - 1, 1);
    }

    private void changeAll(WeighedLots x) {
        x.code(0x1234 & allYes());
        x.keep();
        for (int voter = 0; voter < n; voter++) {
            x.weight(voter, 9 - 3 * voter);
        }
        x.quota(11);
        x.weigh();
        x.see(1, 1);
        x.event(1, n - 1);
        x.book(2, 0);
    }

    private void fillTapes(WeighedLots x) {
        for (int sort = 0; sort <= 4; sort++) {
            int size = this == CROWDED ? MOST_ITEMS : 3 + sort;
            x.tape(sort, sort, size);
            x.item(sort, 0, -1);
            x.item(sort, size - 1, 77 + sort);
        }
    }

    private void crowd(WeighedLots x) {
        for (int k = 0; k < MOST_BOOK; k++) {
            x.see(k % lots(), 1);
            x.event(k % 2, k % n);
            x.book(k % lots(), k % 2);
        }
    }

    static void feed(WeighedLots x, String text) {
        for (int k = 0; k < text.length(); k++) {
            x.feed(text.charAt(k));
        }
    }
}
