/** Each promise by itself, with answers written out by hand: ordinary inputs, edges, wrong inputs. */
final class PromiseTests {
    private static final int MIN = Integer.MIN_VALUE, MAX = Integer.MAX_VALUE;
    private static final long NO = Long.MIN_VALUE;

    private final Checks checks = new Checks("PromiseTests");
    private int promise = 0;
    private int row = 0;
    private WeighedLots x = new WeighedLots();

    public static void main(String[] args) {
        PromiseTests tests = new PromiseTests();
        tests.functions();
        tests.texts();
        tests.asked();
        tests.toldByHand();
        tests.imageAndTapes();
        tests.checks.end();
    }

    private void functions() {
        newObject();
        voters();
        say();
        code();
        weight();
        quota();
        weigh();
        becomes();
        turn();
        exchange();
        keep();
    }

    private void texts() {
        feed();
        read();
        readFaults();
        readRefusals();
    }

    private void asked() {
        of();
        told();
        toldMoves();
        weightOf();
        least();
        chow();
        trade();
        leastLot();
        swings();
    }

    private void toldByHand() {
        see();
        fits();
        odds();
        mean();
        event();
        after();
        book();
        looked();
    }

    private void imageAndTapes() {
        judge();
        image();
        undo();
        count();
        tape();
        item();
        peek();
        shift();
        shiftWithin();
    }

    private void begin(int number) {
        promise = number;
        row = 0;
        x = new WeighedLots();
    }

    private void due(long got, long want) {
        row++;
        checks.due("promise " + promise + ", row " + row, got, want);
    }

    private int readText(String text) {
        for (char sign : text.toCharArray()) {
            x.feed(sign);
        }
        return x.read();
    }

    private void newObject() {
        begin(1);
        due(x.told(0), 3);
        due(x.told(1), 0);
        due(x.told(2), 0);
        due(x.told(4), 101);
        for (int lot = 0; lot < 8; lot++) {
            due(x.of(lot, 0), 0);
        }
        for (int voter = 0; voter < 3; voter++) {
            due(x.weightOf(voter, 0), 100);
        }
        for (int what = 0; what < 4; what++) {
            due(x.count(what), 0);
        }
        for (int tape = 0; tape < 6; tape++) {
            due(x.peek(tape, 0), NO);
            due(x.item(tape, 0, 1), -11);
        }
        due(x.undo(), -3);
        due(WeighedLots.NONE, -1);
        due(WeighedLots.BAD, -2);
        due(WeighedLots.STATE, -3);
        due(WeighedLots.FULL, -4);
        due(WeighedLots.NO, NO);
    }

    private void voters() {
        begin(2);
        x.code(129);
        x.keep();
        x.weight(2, -9);
        x.quota(-40);
        x.see(7, 1);
        x.event(2, 0);
        x.book(7, 1);
        x.feed('g');
        for (int n : new int[] {1, 5, 0, -1, MIN, MAX}) {
            due(x.voters(n), -2);
        }
        due(x.told(1), 129);
        due(x.told(2), 129);
        due(x.voters(4), 3);
        due(x.told(0), 4);
        due(x.told(1), 0);
        due(x.told(2), 0);
        due(x.told(4), 101);
        due(x.weightOf(2, 0), 100);
        due(x.weightOf(3, 0), 100);
        for (int what = 0; what < 4; what++) {
            due(x.count(what), 1);
        }
        x.weight(3, 7);
        due(x.voters(2), 4);
        due(x.voters(4), 2);
        due(x.weightOf(3, 0), 100);
        x.code(5);
        due(x.voters(4), 4);
        due(x.told(1), 0);
    }

    private void say() {
        begin(3);
        due(x.say(0, 1), 0);
        due(x.say(0, 1), 1);
        due(x.say(7, 1), 0);
        due(x.told(1), 129);
        due(x.say(7, 0), 1);
        due(x.say(7, 0), 0);
        due(x.told(1), 1);
        due(x.say(8, 1), -1);
        due(x.say(-1, 1), -1);
        due(x.say(8, 2), -1);
        due(x.say(MAX, 1), -1);
        due(x.say(MIN, 1), -1);
        due(x.say(3, 2), -2);
        due(x.say(3, -1), -2);
        due(x.told(1), 1);
        x.voters(2);
        due(x.say(4, 1), -1);
        due(x.say(3, 1), 0);
        x.voters(4);
        due(x.say(15, 1), 0);
        due(x.say(16, 1), -1);
        due(x.told(1), 32768);
    }

    private void code() {
        begin(4);
        due(x.code(255), 0);
        due(x.code(256), -2);
        due(x.code(-1), -2);
        due(x.code(MIN), -2);
        due(x.code(MAX), -2);
        due(x.code(6), 255);
        due(x.of(1, 0), 1);
        due(x.of(0, 0), 0);
        x.voters(2);
        due(x.code(16), -2);
        due(x.code(15), 0);
        x.voters(4);
        due(x.code(65536), -2);
        due(x.code(65535), 0);
        due(x.code(0), 65535);
    }

    private void weight() {
        begin(5);
        due(x.weight(0, 9), 100);
        due(x.weight(0, -9), 109);
        due(x.weight(0, 10), -2);
        due(x.weight(0, -10), -2);
        due(x.weight(0, MIN), -2);
        due(x.weight(3, 10), -1);
        due(x.weight(-1, 0), -1);
        due(x.weight(MAX, 0), -1);
        due(x.weight(0, 1), 91);
        due(x.weight(2, 4), 100);
        due(x.of(5, 3), 105);
        due(x.told(1), 0);
        x.voters(2);
        due(x.weight(2, 1), -1);
        x.voters(4);
        due(x.weight(3, 1), 100);
        due(x.weight(4, 1), -1);
    }

    private void quota() {
        begin(6);
        due(x.quota(40), 101);
        due(x.quota(41), -2);
        due(x.quota(-41), -2);
        due(x.quota(MAX), -2);
        due(x.quota(MIN), -2);
        due(x.quota(-40), 140);
        due(x.quota(0), 60);
        due(x.told(4), 100);
        due(x.told(1), 0);
    }

    private void weigh() {
        begin(7);
        due(x.weigh(), 0);
        x.quota(0);
        due(x.weigh(), 255);
        x.weight(0, 1);
        x.weight(1, 1);
        x.weight(2, 1);
        x.quota(2);
        due(x.told(1), 255);
        due(x.weigh(), 232);
        due(x.told(1), 232);
        x.weight(2, -1);
        x.quota(1);
        due(x.weigh(), 142);
        due(x.told(2), 0);
    }

    private void becomes() {
        begin(8);
        x.code(128);
        due(x.becomes(0), 254);
        due(x.becomes(0), 128);
        due(x.becomes(1), 127);
        due(x.told(1), 127);
        due(x.becomes(2), 98);
        due(x.told(4), 98);
        due(x.weightOf(0, 0), 99);
        due(x.weightOf(2, 0), 99);
        due(x.told(3), 127);
        due(x.becomes(3), -1);
        due(x.becomes(-1), -1);
        due(x.becomes(MIN), -1);
        x.code(150);
        due(x.becomes(2), -3);
        due(x.told(4), 98);
        due(x.weightOf(0, 0), 99);
        x.voters(2);
        due(x.becomes(0), 15);
        due(x.becomes(1), 0);
        x.voters(4);
        due(x.becomes(1), 65535);
        x.code(1);
        due(x.becomes(0), 32767);
    }

    private void turn() {
        begin(9);
        x.code(1);
        due(x.turn(0), 2);
        due(x.turn(1), 8);
        due(x.turn(2), 128);
        due(x.turn(2), 8);
        due(x.turn(3), -1);
        due(x.turn(-1), -1);
        due(x.turn(MAX), -1);
        due(x.told(1), 8);
        x.voters(4);
        x.code(32769);
        due(x.turn(3), 384);
        x.voters(2);
        due(x.turn(2), -1);
    }

    private void exchange() {
        begin(10);
        x.code(2);
        due(x.exchange(0, 1), 4);
        due(x.exchange(2, 1), 16);
        due(x.exchange(0, 2), 2);
        due(x.exchange(1, 2), 2);
        due(x.exchange(0, 0), -1);
        due(x.exchange(3, 3), -1);
        due(x.exchange(0, 3), -1);
        due(x.exchange(3, 0), -1);
        due(x.exchange(-1, 0), -1);
        due(x.exchange(0, MIN), -1);
        due(x.told(1), 2);
        x.voters(4);
        x.code(2);
        due(x.exchange(0, 3), 256);
        x.code(129);
        due(x.exchange(2, 0), 129);
    }

    private void keep() {
        begin(11);
        x.code(77);
        due(x.told(2), 0);
        due(x.keep(), 77);
        x.code(5);
        due(x.told(2), 77);
        due(x.of(0, 1), 1);
        due(x.of(1, 1), 0);
        due(x.keep(), 5);
        due(x.told(1), 5);
    }

    private void feed() {
        begin(12);
        due(x.feed(-1), -2);
        due(x.feed(128), -2);
        due(x.feed(MIN), -2);
        due(x.feed(0), 1);
        due(x.feed(127), 2);
        for (int k = 3; k <= 100; k++) {
            due(x.feed('g'), k);
        }
        due(x.feed('g'), -4);
        due(x.feed(128), -2);
        due(x.count(3), 100);
        due(x.read(), -10);
        due(x.feed('g'), 1);
    }

    private void read() {
        begin(13);
        due(readText("+"), 1);
        due(x.told(1), 1);
        due(readText("-"), 1);
        due(x.told(1), 0);
        due(readText("n4;+0123;+3;k;-0123"), 5);
        due(x.told(0), 4);
        due(x.told(1), 256);
        due(x.told(2), 33024);
        due(readText("w03;w1-2;w2-0;w309;q12;q-7"), 6);
        due(x.weightOf(0, 0), 103);
        due(x.weightOf(1, 0), 98);
        due(x.weightOf(2, 0), 100);
        due(x.weightOf(3, 0), 109);
        due(x.told(4), 93);
        due(readText("q10;g"), 2);
        due(x.told(1), 43520);
        due(readText("d"), 1);
        due(x.told(1), 65450);
        due(readText("o"), 1);
        due(x.told(1), 85);
        due(readText("t0"), 1);
        due(x.told(1), 170);
        due(readText("x03;x30;x03"), 3);
        due(x.told(1), 21760);
        due(x.count(3), 0);
        due(readText("+00;-11"), 2);
        due(x.told(1), 21762);
    }

    private void readFaults() {
        begin(13);
        x.code(3);
        String[] texts = {"", "n", "n;", "nn", "t", "tx", "x", "x1", "x1;", "w", "w1", "w1-", "w1;", "w12-", "w1234",
            "q", "q-", "q--1", "q123", "q-123", "q1-", "+01234", "-;;", "g;", "g;;", ";", " g", "g ", "g1", "G", "+4a",
            "d0", "k;k;z", "+-"};
        int[] faults = {0, 1, 1, 1, 1, 1, 1, 2, 2, 1, 2, 3, 2, 3, 4,
            1, 2, 2, 3, 4, 2, 5, 2, 2, 2, 0, 0, 1, 1, 0, 2,
            1, 4, 1};
        for (int k = 0; k < texts.length; k++) {
            due(readText(texts[k]), -10 - faults[k]);
            due(x.count(3), 0);
            due(x.told(1), 3);
        }
        due(readText("o;o;o;o;o;o;o;o;o;o;o;o"), 12);
        due(readText("o;o;o;o;o;o;o;o;o;o;o;o;"), -33);
        due(readText("o;o;o;o;o;o;o;o;o;o;o;o;o"), -33);
        due(readText("o;o;o;o;o;o;o;o;o;o;o;n"), -33);
        due(x.told(1), 3);
        due(x.told(2), 0);
    }

    private void readRefusals() {
        begin(13);
        due(readText("n1;n5;n0;n9"), 0);
        due(readText("+3;-9;+0127"), 0);
        due(readText("w010;w0-10;w31;w099"), 0);
        due(readText("q41;q-41;q99"), 0);
        due(readText("t3;t9;x00;x03;x30;x99"), 0);
        due(x.told(0), 3);
        due(x.told(1), 0);
        due(x.told(4), 101);
        due(readText("n2;+2;+1;n3;+2;n4;w3-9"), 6);
        due(x.told(0), 4);
        due(x.weightOf(3, 0), 91);
    }

    private void of() {
        begin(14);
        x.code(129);
        x.keep();
        x.code(2);
        x.weight(0, -9);
        x.weight(1, -9);
        x.weight(2, 4);
        due(x.of(1, 0), 1);
        due(x.of(0, 0), 0);
        due(x.of(7, 1), 1);
        due(x.of(1, 1), 0);
        due(x.of(4, 2), 1);
        due(x.of(0, 2), 0);
        due(x.of(7, 3), 86);
        due(x.of(0, 3), 100);
        due(x.of(4, 3), 104);
        due(x.of(8, 0), -1);
        due(x.of(-1, 0), -1);
        due(x.of(0, 4), -1);
        due(x.of(0, -1), -1);
        due(x.of(MIN, MAX), -1);
    }

    private void told() {
        begin(15);
        x.voters(4);
        x.code(33272);
        x.keep();
        x.quota(-3);
        long[] want = {4, 33272, 33272, 65535, 97, 0, 0, 0, 27, 3};
        for (int what = 0; what < want.length; what++) {
            due(x.told(what), want[what]);
        }
        due(x.told(-1), -1);
        due(x.told(12), -1);
        due(x.told(MIN), -1);
        x.voters(3);
        x.code(232);
        due(x.told(5), 1);
        due(x.told(6), 1);
        due(x.told(7), 1);
        due(x.told(8), 1);
        due(x.told(9), 3);
        x.code(0);
        due(x.told(5), 1);
        due(x.told(9), 0);
        x.code(255);
        due(x.told(5), 1);
        due(x.told(9), 1);
        x.code(1);
        due(x.told(5), 0);
        x.code(105);
        due(x.told(8), 8);
        x.voters(2);
        x.code(6);
        due(x.told(7), 0);
        due(x.told(8), 2);
        x.code(10);
        due(x.told(6), 1);
    }

    private void toldMoves() {
        begin(15);
        due(x.told(10), 2);
        due(x.told(11), 0);
        x.code(255);
        due(x.told(11), 1);
        x.code(1);
        due(x.told(10), 16);
        due(x.told(11), -5);
        x.keep();
        x.code(128);
        due(x.told(11), 2);
        x.code(2);
        due(x.told(11), 1);
        x.code(253);
        due(x.told(11), 2);
        x.voters(4);
        x.code(60136);
        due(x.told(10), 384);
        x.voters(2);
        x.code(6);
        due(x.told(10), 2);
        x.code(8);
        due(x.told(10), 8);
    }

    private void weightOf() {
        begin(16);
        x.weight(1, -4);
        x.code(142);
        due(x.weightOf(1, 0), 96);
        due(x.weightOf(0, 1), 101);
        due(x.weightOf(1, 1), 101);
        due(x.weightOf(2, 1), 99);
        due(x.weightOf(3, 0), -1);
        due(x.weightOf(-1, 1), -1);
        due(x.weightOf(0, 2), -1);
        due(x.weightOf(0, -1), -1);
        x.code(150);
        due(x.weightOf(0, 1), -3);
        due(x.weightOf(3, 1), -1);
        due(x.weightOf(0, 2), -1);
        due(x.weightOf(1, 0), 96);
        x.code(170);
        due(x.weightOf(0, 1), 101);
        due(x.weightOf(1, 1), 100);
        x.voters(4);
        x.code(32768 + 2048 + 8192 + 512 + 128);
        due(x.weightOf(0, 1), 103);
        due(x.weightOf(1, 1), 101);
        due(x.weightOf(2, 1), 101);
        due(x.weightOf(3, 1), 102);
    }

    private void least() {
        begin(17);
        due(x.least(), 101);
        x.code(255);
        due(x.least(), 100);
        x.code(128);
        due(x.least(), 103);
        x.code(127);
        due(x.least(), 98);
        x.code(1);
        due(x.least(), 100);
        x.code(150);
        due(x.least(), -3);
        due(x.told(4), 101);
    }

    private void chow() {
        begin(18);
        x.code(128 + 2 + 1);
        due(x.chow(-1), 3);
        due(x.chow(0), 2);
        due(x.chow(1), 1);
        due(x.chow(2), 1);
        due(x.chow(3), -1);
        due(x.chow(-2), -1);
        due(x.chow(MIN), -1);
        x.voters(4);
        x.code(65535);
        due(x.chow(3), 8);
        due(x.chow(-1), 16);
    }

    private void trade() {
        begin(19);
        x.voters(2);
        x.code(9);
        due(x.trade(0), 1);
        due(x.trade(1), 0);
        due(x.trade(2), 3);
        due(x.trade(3), 1);
        due(x.trade(4), 2);
        x.code(8);
        due(x.trade(0), 0);
        for (int what = 1; what <= 4; what++) {
            due(x.trade(what), -5);
        }
        due(x.trade(5), -1);
        due(x.trade(-1), -1);
        x.voters(4);
        x.code(33272);
        due(x.trade(0), 13);
        due(x.trade(1), 3);
        due(x.trade(2), 8);
        due(x.trade(3), 0);
        due(x.trade(4), 11);
    }

    private void leastLot() {
        begin(20);
        due(x.leastLot(0), -5);
        x.code(232);
        due(x.leastLot(0), 3);
        due(x.leastLot(1), 5);
        due(x.leastLot(2), 6);
        due(x.leastLot(3), -5);
        due(x.leastLot(MAX), -5);
        due(x.leastLot(-1), -1);
        due(x.leastLot(MIN), -1);
        x.code(255);
        due(x.leastLot(0), 0);
        due(x.leastLot(1), -5);
        x.code(128 + 32 + 16);
        due(x.leastLot(0), 4);
        due(x.leastLot(1), -5);
    }

    private void swings() {
        begin(21);
        due(x.swings(0), 0);
        x.code(232);
        due(x.swings(0), 2);
        x.code(150);
        due(x.swings(2), 4);
        x.code(1);
        due(x.swings(1), 1);
        due(x.swings(3), -1);
        due(x.swings(-1), -1);
        x.voters(4);
        x.code(27030);
        due(x.swings(3), 8);
    }

    private void see() {
        begin(22);
        due(x.see(0, 1), 1);
        due(x.see(0, 0), 2);
        due(x.see(8, 0), -1);
        due(x.see(-2, 0), -1);
        due(x.see(8, 2), -1);
        due(x.see(7, 2), -2);
        due(x.see(7, -1), -2);
        for (int k = 3; k <= 6; k++) {
            due(x.see(7, 1), k);
        }
        due(x.see(7, 1), -4);
        due(x.see(7, 2), -2);
        due(x.see(8, 1), -1);
        due(x.count(0), 6);
        due(x.see(-1, 5), 0);
        due(x.count(0), 0);
        due(x.see(7, 1), 1);
    }

    private void fits() {
        begin(23);
        due(x.fits(0), 81);
        due(x.fits(1), 1);
        due(x.fits(2), -1);
        due(x.fits(-1), -1);
        x.weight(0, 3);
        x.weight(1, -2);
        x.see(1, 1);
        due(x.fits(0), 44);
        due(x.fits(1), 1);
        x.see(3, 0);
        due(x.fits(0), 2);
        due(x.fits(1), 43);
        x.see(1, 0);
        due(x.fits(0), 0);
        due(x.fits(1), 0);
        x.see(-1, 0);
        x.see(4, 0);
        due(x.fits(0), 40);
        due(x.fits(1), 42);
        x.voters(2);
        due(x.fits(0), 0);
        due(x.fits(1), 0);
        x.voters(4);
        due(x.fits(0), 40);
        x.see(-1, 0);
        for (int voter = 0; voter < 4; voter++) {
            x.weight(voter, 9);
        }
        x.see(15, 0);
        due(x.fits(0), 4);
        due(x.fits(1), 78);
        x.see(-1, 0);
        for (int voter = 0; voter < 4; voter++) {
            x.weight(voter, -9);
        }
        x.see(15, 1);
        due(x.fits(0), 5);
        due(x.fits(1), 1);
    }

    private void odds() {
        begin(24);
        due(x.odds(0, 0), 0);
        due(x.odds(0, 1), 1);
        x.code(232);
        due(x.odds(2, 0), 1);
        due(x.odds(2, 1), 2);
        x.code(150);
        due(x.odds(1, 0), 1);
        due(x.odds(1, 1), 1);
        x.code(128);
        due(x.odds(1, 0), 1);
        due(x.odds(1, 1), 4);
        due(x.odds(3, 0), NO);
        due(x.odds(-1, 0), NO);
        due(x.odds(0, 2), NO);
        due(x.odds(0, -1), NO);
        x.voters(4);
        x.code(60136);
        due(x.odds(1, 0), 3);
        due(x.odds(1, 1), 8);
    }

    private void mean() {
        begin(25);
        due(x.mean(0), 0);
        due(x.mean(1), 1);
        x.weight(0, -3);
        due(x.mean(0), -3);
        due(x.mean(1), 2);
        x.weight(1, -3);
        due(x.mean(0), -3);
        due(x.mean(1), 1);
        x.weight(1, 3);
        due(x.mean(0), 0);
        due(x.mean(1), 1);
        x.weight(2, 9);
        due(x.mean(0), 9);
        due(x.mean(1), 2);
        due(x.mean(2), NO);
        due(x.mean(-1), NO);
        due(x.mean(MAX), NO);
    }

    private void event() {
        begin(26);
        due(x.event(0, 7), 1);
        due(x.event(1, 2), 2);
        due(x.event(2, 0), 3);
        due(x.event(3, 1), 4);
        due(x.event(0, 8), -1);
        due(x.event(0, -1), -1);
        due(x.event(1, 3), -1);
        due(x.event(1, -1), -1);
        due(x.event(2, 1), -2);
        due(x.event(2, -1), -2);
        due(x.event(3, 2), -1);
        due(x.event(3, -1), -1);
        due(x.event(3, MAX), -1);
        due(x.event(4, 0), -1);
        due(x.event(-2, 0), -1);
        for (int k = 5; k <= 8; k++) {
            due(x.event(0, 0), k);
        }
        due(x.event(0, 0), -4);
        due(x.event(0, 8), -1);
        due(x.event(2, 1), -2);
        due(x.count(1), 8);
        due(x.event(-1, 99), 0);
        due(x.count(1), 0);
        due(x.told(1), 0);
    }

    private void after() {
        begin(27);
        x.code(170);
        due(x.after(0), 170);
        due(x.after(1), 1);
        due(x.after(2), 1);
        x.event(3, 0);
        due(x.after(0), 204);
        x.event(1, 1);
        due(x.after(0), 51);
        x.event(0, 7);
        due(x.after(0), 179);
        due(x.after(1), 1);
        due(x.after(2), 0);
        x.event(2, 0);
        due(x.after(0), 50);
        x.event(0, 1);
        due(x.after(0), 48);
        x.event(0, 0);
        due(x.after(0), 49);
        x.event(0, 6);
        due(x.after(0), 113);
        x.event(0, 5);
        due(x.after(0), 81);
        due(x.after(1), 1);
        due(x.told(1), 170);
        due(x.after(3), -1);
        due(x.after(-1), -1);
        x.code(150);
        x.event(-1, 0);
        due(x.after(1), 0);
        x.code(170);
        x.event(-1, 0);
        x.event(0, 4);
        x.event(1, 2);
        x.event(3, 1);
        x.event(0, 0);
        x.voters(2);
        due(x.after(0), 1);
        x.voters(4);
        due(x.after(0), 0);
        due(x.after(1), 1);
    }

    private void book() {
        begin(28);
        due(x.book(0, 1), 1);
        due(x.book(8, 0), -1);
        due(x.book(-2, 0), -1);
        due(x.book(8, 2), -1);
        due(x.book(7, 2), -2);
        for (int k = 2; k <= 8; k++) {
            due(x.book(7, 0), k);
        }
        due(x.book(7, 0), -4);
        due(x.book(7, 2), -2);
        due(x.book(8, 0), -1);
        due(x.count(2), 8);
        due(x.book(-1, 7), 0);
        due(x.count(2), 0);
        due(x.book(7, 1), 1);
        due(x.told(1), 0);
    }

    private void looked() {
        begin(29);
        due(x.looked(), -5);
        x.book(1, 0);
        x.book(7, 1);
        x.book(2, 0);
        due(x.looked(), 1);
        x.code(128);
        due(x.looked(), -5);
        x.code(130);
        due(x.looked(), 0);
        x.code(132);
        due(x.looked(), 2);
        x.voters(2);
        due(x.looked(), 1);
        x.book(-1, 0);
        due(x.looked(), -5);
    }

    private void judge() {
        begin(30);
        due(x.judge(6, 0), -1);
        due(x.judge(-1, 0), -1);
        due(x.judge(0, 0), 100);
        due(x.judge(0, -5), 100);
        x.tape(0, 4, 10);
        due(x.judge(0, 0), -5);
        due(x.judge(0, 2), -5);
        due(x.judge(0, 3), 107);
        due(x.judge(0, 9), 101);
        due(x.judge(0, 10), 100);
        due(x.judge(0, MAX), 100);
        due(x.judge(0, MIN), 100);
        due(x.judge(0, -1), 100);
        x.item(0, 8, 1);
        due(x.judge(0, 0), -5);
        due(x.judge(0, 1), 7);
        due(x.judge(0, 8), 0);
        x.code(128);
        due(x.judge(0, 1), -5);
        due(x.judge(0, 4), 4);
        x.code(16);
        due(x.judge(0, 4), 106);
        for (int sort = 0; sort < 4; sort++) {
            x.tape(1, sort, 8);
            due(x.judge(1, 0), -12);
            due(x.judge(1, -1), -12);
        }
        x.tape(1, 0, 0);
        due(x.judge(1, 0), -12);
        x.tape(1, 4, 0);
        due(x.judge(1, 0), 100);
    }

    private void image() {
        begin(31);
        x.code(9);
        due(x.image(), 9);
        due(x.told(1), 9);
        x.code(10);
        due(x.image(), 10);
        x.code(11);
        due(x.undo(), 10);
        due(x.undo(), 10);
    }

    private void undo() {
        begin(32);
        due(x.undo(), -3);
        fillSetUp();
        due(x.image(), 7);
        x.voters(2);
        x.weight(0, 2);
        x.quota(2);
        x.see(-1, 0);
        x.event(-1, 0);
        x.book(-1, 0);
        x.see(0, 0);
        x.feed('g');
        x.tape(0, 4, 1);
        due(x.undo(), 7);
        due(x.told(0), 4);
        due(x.told(1), 7);
        due(x.told(2), 300);
        due(x.told(4), 107);
        due(x.weightOf(0, 0), 95);
        due(x.weightOf(3, 0), 106);
        due(x.count(0), 2);
        due(x.count(1), 1);
        due(x.count(2), 1);
        due(x.fits(0), 39);
        due(x.after(0), 32775);
        due(x.looked(), 0);
        due(x.count(3), 1);
        due(x.peek(0, 0), 0);
        x.see(3, 1);
        x.event(0, 1);
        x.book(2, 1);
        x.weight(3, 0);
        due(x.undo(), 7);
        due(x.count(0), 2);
        due(x.count(1), 1);
        due(x.count(2), 1);
        due(x.weightOf(3, 0), 106);
        due(x.read(), 1);
    }

    private void fillSetUp() {
        x.voters(4);
        x.code(300);
        x.keep();
        x.code(7);
        x.weight(0, -5);
        x.weight(3, 6);
        x.quota(7);
        x.see(15, 0);
        x.see(2, 0);
        x.event(0, 15);
        x.book(15, 1);
    }

    private void count() {
        begin(33);
        x.see(0, 0);
        x.event(2, 0);
        x.event(2, 0);
        x.book(0, 0);
        x.book(0, 0);
        x.book(0, 0);
        for (int k = 0; k < 4; k++) {
            x.feed('g');
        }
        for (int what = 0; what < 4; what++) {
            due(x.count(what), what + 1);
        }
        due(x.count(4), -2);
        due(x.count(-1), -2);
        due(x.count(MIN), -2);
    }

    private void tape() {
        begin(34);
        due(x.tape(6, 0, 1), -1);
        due(x.tape(-1, 9, -1), -1);
        due(x.tape(0, 5, 1), -2);
        due(x.tape(0, -2, 1), -2);
        due(x.tape(0, 5, -1), -2);
        due(x.tape(0, 0, 61), -2);
        due(x.tape(0, 0, MAX), -2);
        due(x.tape(0, 0, -1), -14);
        due(x.tape(0, 0, MIN), -14);
        due(x.peek(0, 0), NO);
        due(x.tape(5, 3, 60), 1);
        due(x.peek(5, 59), 0);
        due(x.peek(5, 60), NO);
        due(x.item(5, 59, 7), 1);
        due(x.tape(5, 3, 61), -2);
        due(x.peek(5, 59), 7);
        due(x.tape(5, 3, 60), 1);
        due(x.peek(5, 59), 0);
        due(x.tape(5, 2, 0), 1);
        due(x.peek(5, 0), NO);
        due(x.item(5, 0, 1), -13);
        due(x.tape(5, -1, -7), 1);
        due(x.item(5, 0, 1), -11);
        due(x.tape(5, -1, 61), 1);
    }

    private void item() {
        begin(35);
        for (int sort = 0; sort <= 4; sort++) {
            x.tape(sort, sort, 2);
        }
        due(x.item(6, 0, 1), -1);
        due(x.item(-1, 0, 1), -1);
        due(x.item(5, 0, 1), -11);
        due(x.item(5, -1, 1), -11);
        due(x.item(0, 2, 1), -13);
        due(x.item(0, -1, 1), -13);
        due(x.item(0, MAX, 1), -13);
        long[] given = {0x180L, 0x18000L, 0x180000000L, NO, 256L};
        long[] want = {-128, -32768, -2147483648L, NO, 1};
        for (int tape = 0; tape <= 4; tape++) {
            due(x.item(tape, 1, given[tape]), 1);
            due(x.peek(tape, 1), want[tape]);
            due(x.peek(tape, 0), 0);
            due(x.item(tape, 1, 0), 1);
            due(x.peek(tape, 1), 0);
        }
        due(x.item(4, 0, NO), 1);
        due(x.peek(4, 0), 1);
        due(x.item(0, 0, 127), 1);
        due(x.peek(0, 0), 127);
        due(x.item(1, 0, -1), 1);
        due(x.peek(1, 0), -1);
    }

    private void peek() {
        begin(36);
        due(x.peek(0, 0), NO);
        due(x.peek(6, 0), NO);
        due(x.peek(-1, 0), NO);
        x.tape(0, 2, 3);
        x.item(0, 2, -77);
        due(x.peek(0, 2), -77);
        due(x.peek(0, 3), NO);
        due(x.peek(0, -1), NO);
        due(x.peek(0, MIN), NO);
    }

    private void shift() {
        begin(37);
        x.tape(0, 2, 5);
        x.tape(1, 2, 3);
        x.tape(2, 3, 5);
        x.item(0, 3, 30);
        x.item(0, 4, 40);
        due(x.shift(0, 3, 1, 1, 2), 2);
        due(x.peek(1, 0), 0);
        due(x.peek(1, 1), 30);
        due(x.peek(1, 2), 40);
        due(x.shift(6, 0, 0, 0, 1), -1);
        due(x.shift(0, 0, -1, 0, 1), -1);
        due(x.shift(5, 0, 6, 0, 1), -1);
        due(x.shift(5, 0, 0, 0, 1), -11);
        due(x.shift(0, 0, 5, 0, -1), -11);
        due(x.shift(0, 0, 2, 0, -1), -12);
        due(x.shift(0, 0, 1, 0, -1), -13);
        due(x.shift(0, -1, 1, 0, 1), -13);
        due(x.shift(0, 0, 1, -1, 1), -13);
        due(x.shift(0, 4, 1, 0, 2), -13);
        due(x.shift(0, 0, 1, 2, 2), -13);
        due(x.shift(0, 0, 1, 0, 4), -13);
        due(x.shift(0, MAX, 1, 0, MAX), -13);
        due(x.shift(0, 1, 1, 1, MAX), -13);
        due(x.shift(0, MIN, 1, MIN, MIN), -13);
        due(x.shift(0, 5, 1, 3, 0), 0);
        due(x.shift(0, 6, 1, 3, 0), -13);
        due(x.shift(0, 5, 1, 4, 0), -13);
        due(x.peek(1, 1), 30);
        due(x.shift(1, 0, 0, 2, 3), 3);
        due(x.peek(0, 3), 30);
        due(x.shift(0, 0, 0, 0, 5), 5);
        due(x.peek(0, 4), 40);
    }

    private void shiftWithin() {
        begin(37);
        x.tape(0, 0, 5);
        for (int i = 0; i < 5; i++) {
            x.item(0, i, i + 1);
        }
        due(x.shift(0, 0, 0, 1, 4), 4);
        long[] up = {1, 1, 2, 3, 4};
        for (int i = 0; i < 5; i++) {
            due(x.peek(0, i), up[i]);
        }
        due(x.shift(0, 2, 0, 0, 3), 3);
        long[] down = {2, 3, 4, 3, 4};
        for (int i = 0; i < 5; i++) {
            due(x.peek(0, i), down[i]);
        }
    }
}
