import java.util.NoSuchElementException;

/** For each promise the ordinary inputs, the edges that the document names, and wrong inputs; worked out by hand. */
public final class PromiseTests {
    private static final Class<IllegalArgumentException> ARGUMENT = IllegalArgumentException.class;
    private static final Class<IllegalStateException> STATE = IllegalStateException.class;
    private static final Class<IndexOutOfBoundsException> INDEX = IndexOutOfBoundsException.class;
    private static final Class<NoSuchElementException> ELEMENT = NoSuchElementException.class;

    /**
     * Three pages of four lines: lots 0 and 1; lot 2; lot 4. Lot 1 is to go, lot 3 is to come.
     */
    private static final String FIVE =
            "bill 4;lot 2 100 1;lot 1 50 2 out;lot 3 200 1;lot 1 70 3 in;lot 2 100 1;";

    private final Check check = new Check();

    public static void main(String[] args) {
        PromiseTests t = new PromiseTests();
        t.setup();
        t.questions();
        t.changes();
        t.check.end();
    }

    private void setup() {
        check.test("promise 1: a new object", this::newObject);
        check.test("promise 2: append", this::append);
        check.test("promise 2: the bytes of append", this::bytesOfAppend);
        check.test("promise 3: load", this::load);
        check.test("promise 3: load replaces all data", this::loadReplacesAll);
        check.test("promise 3: wrong lengths", this::loadWrongLengths);
        check.test("promise 3: an error changes nothing else", this::loadErrorChangesNothing);
        check.test("promise 3: texts that are right", this::rightTexts);
        check.test("promise 3: syntax errors", this::syntaxErrors);
        check.test("promise 3: numbers out of range", this::rangeErrors);
        check.test("promise 3: too many", this::tooMany);
        check.test("promise 4: errorOffset", this::errorOffset);
    }

    private void questions() {
        check.test("promise 5: state", this::state);
        check.test("promise 6: lot", this::lot);
        check.test("promise 7: page", this::page);
        check.test("promise 8: standing", this::standing);
        check.test("promise 9: numbered", this::numbered);
        check.test("promise 10: different", this::different);
        check.test("promise 11: best", this::best);
        check.test("promise 12: choice", this::choice);
        check.test("promise 12: gatherings of a choice", this::choiceGatherings);
        check.test("promise 12: slips of a choice", this::choiceSlips);
        check.test("promise 13: pays", this::pays);
        check.test("promise 14: dearest", this::dearest);
        check.test("promise 15: seller", this::seller);
        check.test("promise 16: through", this::through);
        check.test("promise 17: filled", this::filled);
        check.test("promises 5 to 17: a bill as full as can be", this::fullBill);
    }

    private void changes() {
        check.test("promise 18: withdraw", this::withdraw);
        check.test("promise 19: restore", this::restore);
        check.test("promises 18 and 19: at most 8 different lots", this::mostDifferent);
        check.test("promise 20: add", this::add);
        check.test("promise 20: wrong inputs of add", this::addWrong);
        check.test("promise 21: carry", this::carry);
        check.test("promise 22: press", this::press);
        check.test("promise 23: setCost", this::setCost);
        check.test("promise 24: undo", this::undo);
        check.test("promise 24: each change can be undone", this::undoEach);
        check.test("promise 24: what is no change", this::undoNoChange);
        check.test("promise 25: checksum", this::checksum);
    }

    private void states(String what, LotSheet x, int... due) {
        for (int i = 0; i < due.length; i++) {
            check.same(what + ": state(" + i + ")", x.state(i), due[i]);
        }
    }

    private void facts(LotSheet x, int lot, int... due) {
        for (int i = 0; i < due.length; i++) {
            check.same("lot(" + lot + ", " + i + ")", x.lot(lot, i), due[i]);
        }
    }

    private void figures(LotSheet x, int choice, int... due) {
        for (int i = 0; i < due.length; i++) {
            check.same("choice(" + choice + ", " + i + ")", x.choice(choice, i), due[i]);
        }
    }

    private static String times(int n, String text) {
        return text.repeat(n);
    }

    // ---- promises 1 to 4

    private void newObject() {
        LotSheet x = new LotSheet();
        states("new", x, 20, 0, 0, 0, 0, 0, 0, 0, 0, 0, 0, 3);
        check.same("errorOffset()", x.errorOffset(), -1);
        check.same("best()", x.best(), 0);
        figures(x, 0, 0, 0, 0, 0, 0, 0, 0);
        check.same("undo()", x.undo(), -1);
        check.raises("load(1)", ARGUMENT, () -> x.load(1));
        int[] costs = {1, 5, 10, 8, 2};
        for (int i = 0; i < 5; i++) {
            check.same("setCost", x.setCost(i, 0), costs[i]);
        }
    }

    private void append() {
        LotSheet x = new LotSheet();
        for (int n = 1; n <= 25; n++) {
            check.same("append", x.append(0, -1, 7, 8, 9), 20 * n);
        }
        check.same("append beyond 500", x.append(1, 2, 3, 4, 5), -1);
        check.same("append beyond 500 again", x.append(1, 2, 3, 4, 5), -1);
        check.raises("load(501)", ARGUMENT, () -> x.load(501));
        check.same("load(500)", x.load(500), LotSheet.SYNTAX_ERROR);
        check.same("append to the empty buffer", x.append(1, 2, 3, 4, 5), 20);
    }

    private void bytesOfAppend() {
        LotSheet x = new LotSheet();
        x.append(0x62696c6c, 0x31323b6c, 0x6f743120, 0x3220333b, 0x6c6f7434);
        x.append(0x20352036, 0x696e3b20, 0x20202020, 0x20202020, 0xffffffff);
        check.same("load", x.load(36), 2);
        check.same("height", x.state(0), 12);
        facts(x, 0, 1, 2, 3, 1, 1);
        facts(x, 1, 4, 5, 6, 0, 1);
        x.append(0x62696c6c, 0x31323bff, 0x20202020, 0x20202020, 0x20202020);
        check.same("byte 255", x.load(20), LotSheet.SYNTAX_ERROR);
        check.same("its offset", x.errorOffset(), 7);
    }

    private void load() {
        LotSheet x = new LotSheet();
        check.same("lots", Sheets.load(x, FIVE + "slip 9;costs 11 12 13 14 15;"), 5);
        states("loaded", x, 4, 5, 4, 4, 2, 0, 3, 1, 0, 470, 2, 9);
        facts(x, 0, 2, 100, 1, 1, 1, 0);
        facts(x, 1, 1, 50, 2, 1, 0, 0);
        facts(x, 3, 1, 70, 3, 0, 1, 0);
        for (int i = 0; i < 5; i++) {
            check.same("setCost", x.setCost(i, 0), 11 + i);
        }
        Sheets.append(x, "bill 5;lot 1 1 1;  lot 9");
        check.same("only the first bytes", x.load(17), 1);
        check.raises("the buffer is empty afterwards", ARGUMENT, () -> x.load(1));
    }

    private void loadReplacesAll() {
        LotSheet x = Sheets.of(FIVE + "slip 9;costs 11 12 13 14 15;");
        x.press();
        check.isTrue("there is an account", x.state(8) > 0);
        check.same("load", Sheets.load(x, "bill 30;"), 0);
        states("replaced", x, 30, 0, 0, 0, 0, 0, 0, 0, 0, 0, 0, 3);
        int[] costs = {1, 5, 10, 8, 2};
        for (int i = 0; i < 5; i++) {
            check.same("setCost", x.setCost(i, 0), costs[i]);
        }
        Sheets.load(x, FIVE);
        x.carry(0);
        check.same("slipped", x.state(5), 2);
        Sheets.load(x, FIVE);
        check.same("slipped after load", x.state(5), 0);
        check.same("costs and slip", Sheets.load(x, "bill 4;costs 1 2 3 4 5;slip 5;"), 0);
        check.same("costs and slip once more", Sheets.load(x, "bill 4;costs 1 2 3 4 5;slip 6;"), 0);
        check.same("room", x.state(11), 6);
    }

    private void loadWrongLengths() {
        LotSheet x = new LotSheet();
        Sheets.append(x, "bill 7;");
        check.raises("load(-1)", ARGUMENT, () -> x.load(-1));
        check.raises("load(21)", ARGUMENT, () -> x.load(21));
        check.raises("load(MIN)", ARGUMENT, () -> x.load(Integer.MIN_VALUE));
        check.raises("load(MAX)", ARGUMENT, () -> x.load(Integer.MAX_VALUE));
        check.same("the buffer is unchanged", x.load(20), 0);
        check.same("height", x.state(0), 7);
    }

    private void loadErrorChangesNothing() {
        LotSheet x = Sheets.of(FIVE);
        x.carry(0);
        long sum = x.checksum();
        check.same("load", Sheets.load(x, "bill 9;lot 1 1 1;slip 5;costs 0 0 0 0 0;lot"), LotSheet.SYNTAX_ERROR);
        check.same("checksum", x.checksum(), sum);
        check.raises("the buffer is empty", ARGUMENT, () -> x.load(1));
        check.same("setCost", x.setCost(0, 3), 1);
        check.same("undo of setCost", x.undo(), 2);
        check.same("undo of carry", x.undo(), 1);
        check.same("load(0)", x.load(0), LotSheet.SYNTAX_ERROR);
    }

    private void right(String text, int lots) {
        LotSheet x = new LotSheet();
        check.same(text, Sheets.load(x, text), lots);
        check.same("errorOffset() of " + text, x.errorOffset(), -1);
    }

    private void rightTexts() {
        right("bill4;", 0);
        right("bill 40;", 0);
        right("   bill   0000000000000000000000020   ;   ", 0);
        right("bill 20;lot1 0 0;lot 9 9999 9;", 2);
        right("bill 20;lot 1 1 1out;lot 1 1 1in;lot 1 1 1 out ;lot 1 1 1 in ;", 4);
        right("bill 4;lot 4 00009999 00;", 1);
        right("bill 20;costs0 99 0 99 0;slip1;", 0);
        right("bill 20;slip 9;lot 1 1 1;costs 1 2 3 4 5;", 1);
        right("bill 20;" + times(24, "lot 1 1 1;"), 24);
        right("bill 20;" + times(4, "lot 1 1 1 in;lot 1 1 1 out;lot 1 1 1;") + times(12, "lot 1 1 1;"), 24);
        check.same("leading zeros", Sheets.of("bill 00012;slip 007;").state(11), 7);
    }

    private void wrong(int code, int offset, String text) {
        LotSheet x = new LotSheet();
        check.same(text, Sheets.load(x, text), code);
        check.same("errorOffset() of " + text, x.errorOffset(), offset);
        check.same("lots", x.state(1), 0);
        check.same("no change", x.undo(), -1);
    }

    private void syntaxErrors() {
        int code = LotSheet.SYNTAX_ERROR;
        wrong(code, 0, "");
        wrong(code, 3, "   ");
        wrong(code, 0, "bil 20;");
        wrong(code, 0, "bills 20;");
        wrong(code, 0, "billlot 20;");
        wrong(code, 0, "billa20;");
        wrong(code, 0, "billz20;");
        wrong(code, 4, "bill`20;");
        wrong(code, 4, "bill{20;");
        wrong(code, 7, "bill 20/;");
        wrong(code, 7, "bill 20:;");
        wrong(code, 0, "Bill 20;");
        wrong(code, 2, "  ;");
        wrong(code, 0, "20;");
        wrong(code, 4, "bill");
        wrong(code, 6, "bill  ");
        wrong(code, 5, "bill x;");
        wrong(code, 5, "bill ;");
        wrong(code, 5, "bill -4;");
        wrong(code, 7, "bill 20");
        wrong(code, 8, "bill 20 ");
        wrong(code, 8, "bill 20 20;");
        wrong(code, 7, "bill 20lot 1 1 1;");
        wrong(code, 8, "bill 20;;");
        wrong(code, 8, "bill 20;bill 20;");
        wrong(code, 9, "bill 20; lots 1 1 1;");
        wrong(code, 8, "bill 20;lo");
        wrong(code, 8, "bill 20;lo t 1 1 1;");
        wrong(code, 8, "bill 20;7;");
        wrong(code, 11, "bill 20;lot");
        wrong(code, 11, "bill 20;lot;");
        wrong(code, 14, "bill 20;lot 1 ;");
        wrong(code, 16, "bill 20;lot 1 1 out;");
        wrong(code, 17, "bill 20;lot 1 1 1");
        wrong(code, 18, "bill 20;lot 1 1 1 1;");
        wrong(code, 18, "bill 20;lot 1 1 1 outin;");
        wrong(code, 22, "bill 20;lot 1 1 1 out in;");
        wrong(code, 18, "bill 20;lot 1 1 1 inn;");
        wrong(code, 18, "bill 20;lot 1 1 1 ou");
        wrong(code, 20, "bill 20;lot 1 1 1 in");
        wrong(code, 20, "bill 20;lot 1 1 1 in9;");
        wrong(code, 21, "bill 20;costs 1 2 3 4;");
        wrong(code, 24, "bill 20;costs 1 2 3 4 5 6;");
        wrong(code, 24, "bill 20;costs 1 2 3 4 5;costs 1 2 3 4 5;");
        wrong(code, 15, "bill 20;slip 3;slip 3;");
        wrong(code, 16, "bill 20;slip 3; slip 3");
        wrong(code, 7, "bill 20\t;");
        wrong(code, 7, "bill 20\u0000;");
        wrong(code, 9, "bill 20; \u00ffot 1 1 1;");
        wrong(code, 5, "bill \u00b2;");
    }

    private void rangeErrors() {
        int code = LotSheet.OUT_OF_RANGE;
        wrong(code, 5, "bill 3;");
        wrong(code, 5, "bill 41");
        wrong(code, 6, "bill  000x");
        wrong(code, 5, "bill 4294967316;");
        wrong(code, 5, "bill 18446744073709551636;");
        wrong(code, 5, "bill " + times(100, "9") + ";");
        wrong(code, 12, "bill 20;lot 0 1 1;");
        wrong(code, 12, "bill 20;lot 10 1 1;");
        wrong(code, 11, "bill 4;lot 5 1 1;");
        wrong(code, 14, "bill 20;lot 1 10000 1;");
        wrong(code, 14, "bill 20;lot 1 4294967297 1;");
        wrong(code, 16, "bill 20;lot 1 1 10;");
        wrong(code, 14, "bill 20;costs 100 1 1 1 1;");
        wrong(code, 22, "bill 20;costs 1 1 1 1 100;");
        wrong(code, 13, "bill 20;slip 0;");
        wrong(code, 13, "bill 20;slip 10;");
        wrong(code, 13, "bill 20;slip 10");
    }

    private void tooMany() {
        int code = LotSheet.TOO_MANY;
        String full = "bill 20;" + times(24, "lot 1 1 1;");
        wrong(code, 248, full + "lot 1 1 1;");
        wrong(code, 250, full + "  lot");
        wrong(code, 248, full + "lot 99 1 1;");
        wrong(LotSheet.SYNTAX_ERROR, 248, full + "lots 1 1 1;");
        wrong(LotSheet.SYNTAX_ERROR, 248, full + "out;");
        String eight = "bill 20;" + times(4, "lot 1 1 1out;lot 1 1 1 in;");
        wrong(code, 122, eight + "lot 1 1 1 out;");
        wrong(code, 121, eight + "lot 1 1 1in;");
        wrong(code, 122, eight + "lot 1 1 1 in");
        wrong(LotSheet.SYNTAX_ERROR, 122, eight + "lot 1 1 1 inn;");
        wrong(LotSheet.OUT_OF_RANGE, 120, eight + "lot 1 1 10 in;");
        right(eight + "lot 1 1 1;", 9);
        String both = "bill 20;" + times(16, "lot 1 1 1;") + times(8, "lot 1 1 1in;");
        wrong(code, 264, both + "lot 1 1 1 in;");
    }

    private void errorOffset() {
        LotSheet x = new LotSheet();
        check.same("without load", x.errorOffset(), -1);
        Sheets.load(x, "bill 20;lot 0 0 0;");
        check.same("after an error", x.errorOffset(), 12);
        check.raises("load(1)", ARGUMENT, () -> x.load(1));
        check.same("after a load that threw", x.errorOffset(), 12);
        x.setCost(0, 0);
        x.undo();
        check.same("after other calls", x.errorOffset(), 12);
        Sheets.load(x, "bill 20;");
        check.same("after a load without error", x.errorOffset(), -1);
        Sheets.load(x, "?");
        check.same("after a second error", x.errorOffset(), 0);
        x.undo();
        check.same("after undo of load", x.errorOffset(), 0);
    }

    // ---- promises 5 to 10

    private void state() {
        LotSheet x = Sheets.of(FIVE);
        states("five lots", x, 4, 5, 4, 4, 2, 0, 3, 1, 0, 470, 2, 3);
        check.same("carry(0)", x.carry(0), 12);
        states("carried", x, 4, 5, 4, 4, 2, 2, 3, 1, 12, 470, 2, 3);
        check.same("carry(3)", x.carry(3), 23);
        states("carried again", x, 4, 5, 4, 4, 0, 0, 3, 1, 35, 470, 2, 3);
        LotSheet first = Sheets.of("bill 4;lot 1 1 1 in;");
        first.carry(0);
        check.same("the first lot is slipped", first.state(5), 1);
        check.raises("state(12)", ARGUMENT, () -> x.state(12));
        check.raises("state(-1)", ARGUMENT, () -> x.state(-1));
        String page = "lot 4 1 1;";
        int[] gatherings = {0, 1, 1, 1, 1, 2, 2, 2, 2, 3};
        for (int n = 0; n < gatherings.length; n++) {
            LotSheet y = Sheets.of("bill 4;" + times(n, page));
            check.same(n + " pages", y.state(6), n);
            check.same("gatherings of " + n + " pages", y.state(7), gatherings[n]);
            check.same("blank lines of " + n + " pages", y.state(10), 0);
        }
        check.same("24 pages", Sheets.of("bill 4;" + times(24, page)).state(7), 6);
        check.same("blank lines ahead of the last page",
                Sheets.of("bill 9;lot 5 1 1;lot 6 1 1;lot 7 1 1;").state(10), 4 + 3);
        check.same("estimates of wanted lots alone",
                Sheets.of("bill 9;lot 1 9999 1;lot 1 3 1 out;lot 1 5 1 in;").state(9), 10004);
    }

    private void lot() {
        LotSheet x = Sheets.of(FIVE);
        facts(x, 0, 2, 100, 1, 1, 1, 0, 1, 0, 0);
        facts(x, 1, 1, 50, 2, 1, 0, 0, 2, 0, 2);
        facts(x, 2, 3, 200, 1, 1, 1, 0, 3, 1, 0);
        facts(x, 3, 1, 70, 3, 0, 1, 0, 0, -1, -1);
        facts(x, 4, 2, 100, 1, 1, 1, 0, 4, 2, 0);
        x.carry(1);
        facts(x, 1, 1, 50, 2, 0, 0, 0, 0, -1, -1);
        facts(x, 2, 3, 200, 1, 1, 1, 0, 2, 1, 0);
        facts(x, 3, 1, 70, 3, 0, 1, 1, 0, -1, -1);
        check.raises("lot(5, 0)", INDEX, () -> x.lot(5, 0));
        check.raises("lot(-1, 0)", INDEX, () -> x.lot(-1, 0));
        check.raises("lot(5, 9)", INDEX, () -> x.lot(5, 9));
        check.raises("lot(4, 9)", ARGUMENT, () -> x.lot(4, 9));
        check.raises("lot(4, -1)", ARGUMENT, () -> x.lot(4, -1));
        // A lot that has just room on the page stays on it.
        LotSheet y = Sheets.of("bill 4;lot 1 1 1;lot 3 1 1;lot 1 1 1;lot 4 1 1;");
        facts(y, 1, 3, 1, 1, 1, 1, 0, 2, 0, 1);
        facts(y, 2, 1, 1, 1, 1, 1, 0, 3, 1, 0);
        facts(y, 3, 4, 1, 1, 1, 1, 0, 4, 2, 0);
    }

    private void page() {
        LotSheet x = Sheets.of(FIVE);
        int[][] due = {{2, 0, 1, 100}, {1, 2, 1, 200}, {1, 4, 2, 100}};
        for (int p = 0; p < 3; p++) {
            for (int what = 0; what < 4; what++) {
                check.same("page(" + p + ", " + what + ")", x.page(p, what), due[p][what]);
            }
        }
        check.raises("page(3, 0)", INDEX, () -> x.page(3, 0));
        check.raises("page(-1, 0)", INDEX, () -> x.page(-1, 0));
        check.raises("page(3, 4)", INDEX, () -> x.page(3, 4));
        check.raises("page(2, 4)", ARGUMENT, () -> x.page(2, 4));
        check.raises("page(2, -1)", ARGUMENT, () -> x.page(2, -1));
        LotSheet y = Sheets.of("bill 4;lot 1 1 1 in;");
        check.raises("no lot is printed", INDEX, () -> y.page(0, 0));
        LotSheet z = Sheets.of("bill 4;lot 1 7 1 in;lot 1 5 1;lot 1 6 1 in;lot 1 8 1;");
        check.same("lots that are printed", z.page(0, 0), 2);
        check.same("the first printed lot", z.page(0, 1), 1);
        check.same("their estimates", z.page(0, 3), 13);
        z.carry(1);
        check.same("lots that are printed then", z.page(0, 0), 3);
        check.same("the first printed lot then", z.page(0, 1), 0);
    }

    private void standing() {
        LotSheet x = Sheets.of(FIVE);
        int[][] due = {{0, 1, 10, -1}, {20, 21, 22, -1}, {40, 41, -1, -1}};
        for (int p = 0; p < 3; p++) {
            for (int line = 0; line < 4; line++) {
                check.same("standing(" + p + ", " + line + ")", x.standing(p, line), due[p][line]);
            }
        }
        check.raises("standing(3, 0)", INDEX, () -> x.standing(3, 0));
        check.raises("standing(-1, 0)", INDEX, () -> x.standing(-1, 0));
        check.raises("standing(3, 4)", INDEX, () -> x.standing(3, 4));
        check.raises("standing(2, 4)", ARGUMENT, () -> x.standing(2, 4));
        check.raises("standing(2, -1)", ARGUMENT, () -> x.standing(2, -1));
        LotSheet y = Sheets.of("bill 40;" + times(23, "lot 1 1 1;") + "lot 9 1 1;");
        check.same("lot 23, line 8", y.standing(0, 31), 238);
        check.same("the last line", y.standing(0, 39), -1);
    }

    private void numbered() {
        LotSheet x = Sheets.of(FIVE);
        int[] due = {0, 1, 2, 4};
        for (int n = 1; n <= 4; n++) {
            check.same("numbered(" + n + ")", x.numbered(n), due[n - 1]);
        }
        check.raises("numbered(0)", ELEMENT, () -> x.numbered(0));
        check.raises("numbered(5)", ELEMENT, () -> x.numbered(5));
        check.raises("numbered(-1)", ELEMENT, () -> x.numbered(-1));
        x.carry(1);
        check.same("numbered(2) later", x.numbered(2), 2);
        check.raises("numbered(4) later", ELEMENT, () -> x.numbered(4));
    }

    private void different() {
        LotSheet x = Sheets.of(FIVE);
        check.same("different(0)", x.different(0), 1);
        check.same("different(1)", x.different(1), 3);
        check.raises("different(2)", ELEMENT, () -> x.different(2));
        check.raises("different(-1)", ELEMENT, () -> x.different(-1));
        x.withdraw(0);
        check.same("different(0) later", x.different(0), 0);
        check.same("different(2) later", x.different(2), 3);
        x.carry(0);
        check.same("slipped ones are different too", x.different(2), 3);
    }

    // ---- promises 11 to 17

    private void best() {
        LotSheet x = Sheets.of(FIVE);
        check.same("best()", x.best(), 0);
        x.setCost(3, 40);
        check.same("dear slips", x.best(), 3);
        x.setCost(3, 0);
        x.setCost(4, 0);
        check.same("free slips", x.best(), 0);
        check.same("nothing different", Sheets.of("bill 4;lot 1 1 1;").best(), 0);
        check.same("all costs 0", Sheets.of(FIVE + "costs 0 0 0 0 0;").best(), 0);
        // Choices 1 and 2 cost 7 each, 0 costs 10 and 3 costs 9.
        LotSheet y = Sheets.of("bill 4;lot 3 1 1;lot 1 1 1 in;lot 1 1 1 in;lot 4 1 1;costs 1 0 0 5 0;slip 1;");
        figures(y, 0, 10, 0);
        figures(y, 1, 7, 2);
        figures(y, 2, 7, 2);
        figures(y, 3, 9, 9);
        check.same("of several the smallest", y.best(), 1);
        check.same("the best one of 256", Sheets.of("bill 20;" + times(8, "lot 1 1 1in;") + "costs 0 0 0 9 0;slip 9;")
                .best(), 255);
    }

    private void choice() {
        LotSheet x = Sheets.of(FIVE);
        figures(x, 0, 12, 0, 0, 0, 1, 2, 3);
        figures(x, 1, 38, 3, 3, 1, 1, 1, 3);
        figures(x, 2, 32, 2, 2, 1, 1, 1, 3);
        figures(x, 3, 23, 3, 2, 1, 0, 0, 3);
        check.raises("choice(4, 0)", ARGUMENT, () -> x.choice(4, 0));
        check.raises("choice(-1, 0)", ARGUMENT, () -> x.choice(-1, 0));
        check.raises("choice(0, 7)", ARGUMENT, () -> x.choice(0, 7));
        check.raises("choice(0, -1)", ARGUMENT, () -> x.choice(0, -1));
        check.raises("choice(4, 7)", ARGUMENT, () -> x.choice(4, 7));
        check.same("choice changes nothing", x.state(2), 4);
        int[] costs = {10, 20, 30, 40, 50};
        for (int i = 0; i < 5; i++) {
            x.setCost(i, costs[i]);
        }
        figures(x, 1, 30 + 60 + 30 + 40 + 50, 3, 3, 1, 1, 1, 3);
        // Lines of one lot that come to stand a line lower are changed lines.
        LotSheet y = Sheets.of("bill 9;lot 1 1 1 in;lot 3 1 1;");
        figures(y, 1, 4 + 5 + 10, 4, 1, 1, 0, 0, 1);
    }

    private void choiceGatherings() {
        LotSheet first = Sheets.of("bill 4;lot 4 1 1 out;" + times(4, "lot 4 1 1;"));
        figures(first, 1, 20 + 25 + 20, 20, 5, 2, 0, 0, 4);
        LotSheet last = Sheets.of("bill 4;" + times(4, "lot 4 1 1;") + "lot 4 1 1 out;");
        figures(last, 1, 4 + 5 + 10, 4, 1, 1, 0, 0, 4);
        LotSheet come = Sheets.of("bill 4;" + times(4, "lot 4 1 1;") + "lot 2 1 1 in;");
        figures(come, 1, 2 + 5 + 10, 2, 1, 1, 0, 0, 5);
        // Pages 3 and 4 change, which are neighbours in two gatherings.
        LotSheet two = Sheets.of("bill 4;" + times(3, "lot 4 1 1;") + "lot 4 1 1 out;lot 4 1 1;");
        figures(two, 1, 8 + 10 + 20, 8, 2, 2, 0, 0, 4);
        LotSheet none = Sheets.of("bill 4;lot 2 1 1 out;");
        figures(none, 1, 2 + 5 + 10, 2, 1, 1, 0, 0, 0);
    }

    private void choiceSlips() {
        int[] due = {0, 1, 1, 1, 2, 2, 2, 3, 3};
        for (int n = 0; n <= 8; n++) {
            LotSheet x = Sheets.of("bill 20;" + times(n, "lot 1 1 1in;"));
            figures(x, 0, 8 * due[n] + 2 * n, 0, 0, 0, due[n], n, 0);
            figures(x, (1 << n) - 1, n == 0 ? 0 : n + 15, n, n == 0 ? 0 : 1, n == 0 ? 0 : 1, 0, 0, n == 0 ? 0 : 1);
        }
        check.same("9 entries of room", Sheets.of("bill 20;slip 9;" + times(8, "lot 1 1 1in;")).choice(0, 4), 1);
        check.same("1 entry of room", Sheets.of("bill 20;slip 1;" + times(8, "lot 1 1 1in;")).choice(0, 4), 8);
        LotSheet y = Sheets.of("bill 20;slip 1;" + times(4, "lot 1 1 1in;"));
        y.carry(1);
        figures(y, 0, 0, 0, 0, 0, 0, 0, 1);
        check.same("slipped ones are no entries", y.choice(1, 5), 0);
        y.add(0, 1, 1, 1);
        check.same("the new one is an entry", y.choice(0, 5), 1);
    }

    private void pays() {
        LotSheet x = Sheets.of(FIVE);
        check.same("pays(1)", x.pays(1), 23 - 12);
        check.same("pays(3)", x.pays(3), 23 - 12);
        check.same("pays(0)", x.pays(0), 0);
        check.same("pays(4)", x.pays(4), 0);
        x.setCost(3, 40);
        check.same("pays(1) with dear slips", x.pays(1), 23 - 44);
        check.raises("pays(5)", INDEX, () -> x.pays(5));
        check.raises("pays(-1)", INDEX, () -> x.pays(-1));
    }

    private void dearest() {
        LotSheet x = Sheets.of(FIVE);
        int[] due = {2, 0, 4, 3};
        for (int k = 0; k < 4; k++) {
            check.same("dearest(" + k + ")", x.dearest(k), due[k]);
        }
        check.raises("dearest(4)", ELEMENT, () -> x.dearest(4));
        check.raises("dearest(-1)", ELEMENT, () -> x.dearest(-1));
        x.withdraw(2);
        check.same("dearest(0) later", x.dearest(0), 0);
        check.raises("dearest(3) later", ELEMENT, () -> x.dearest(3));
    }

    private void seller() {
        LotSheet x = Sheets.of(FIVE);
        int[][] due = {{0, 0, 0}, {3, 400, 7}, {0, 0, 1}, {1, 70, 0}};
        for (int s = 0; s < due.length; s++) {
            for (int what = 0; what < 3; what++) {
                check.same("seller(" + s + ", " + what + ")", x.seller(s, what), due[s][what]);
            }
        }
        check.same("seller(9, 0)", x.seller(9, 0), 0);
        check.raises("seller(10, 0)", ARGUMENT, () -> x.seller(10, 0));
        check.raises("seller(-1, 0)", ARGUMENT, () -> x.seller(-1, 0));
        check.raises("seller(0, 3)", ARGUMENT, () -> x.seller(0, 3));
        check.raises("seller(0, -1)", ARGUMENT, () -> x.seller(0, -1));
    }

    private void through() {
        LotSheet x = Sheets.of(FIVE);
        int[] due = {0, 0, 1, 2, 2, 2, 4, 4};
        for (int line = 0; line < due.length; line++) {
            check.same("through(" + line + ")", x.through(line), due[line]);
        }
        check.raises("through(8)", ELEMENT, () -> x.through(8));
        check.raises("through(-1)", ELEMENT, () -> x.through(-1));
        check.raises("through(9999)", ELEMENT, () -> x.through(9999));
        check.raises("through(10000)", ELEMENT, () -> x.through(10000));
        check.raises("through(MAX)", ELEMENT, () -> x.through(Integer.MAX_VALUE));
    }

    private void filled() {
        check.sameDouble("without pages", new LotSheet().filled(), 0.0);
        check.sameDouble("nothing printed", Sheets.of("bill 4;lot 1 1 1 in;").filled(), 0.0);
        LotSheet x = Sheets.of(FIVE);
        check.sameDouble("8 of 12", x.filled(), 8.0 / 12.0);
        x.carry(1);
        check.sameDouble("7 of 12", x.filled(), 7.0 / 12.0);
        check.sameDouble("full", Sheets.of("bill 4;lot 4 1 1;").filled(), 1.0);
    }

    private void fullBill() {
        LotSheet x = Sheets.of("bill 9;" + times(16, "lot 9 9999 9;") + times(8, "lot 9 9 9out;"));
        states("full", x, 9, 24, 24, 16, 8, 0, 24, 6, 0, 159984, 0, 3);
        facts(x, 23, 9, 9, 9, 1, 0, 0, 24, 23, 0);
        check.same("page(23, 1)", x.page(23, 1), 23);
        check.raises("page(24, 0)", INDEX, () -> x.page(24, 0));
        check.raises("lot(24, 0)", INDEX, () -> x.lot(24, 0));
        check.raises("pays(24)", INDEX, () -> x.pays(24));
        check.raises("different(8)", ELEMENT, () -> x.different(8));
        check.raises("numbered(25)", ELEMENT, () -> x.numbered(25));
        check.raises("dearest(16)", ELEMENT, () -> x.dearest(16));
        check.raises("through(216)", ELEMENT, () -> x.through(216));
        check.raises("choice(256, 0)", ARGUMENT, () -> x.choice(256, 0));
        check.same("seller(9, 2)", x.seller(9, 2), 216);
        check.same("standing(23, 8)", x.standing(23, 8), 238);
        check.same("through(215)", x.through(215), 23);
        check.sameDouble("filled()", x.filled(), 1.0);
        figures(x, 255, 72 + 40 + 20, 72, 8, 2, 0, 0, 16);
        figures(x, 0, 24 + 16, 0, 0, 0, 3, 8, 24);
        check.same("best()", x.best(), 0);
    }

    // ---- promises 18 to 25

    private void withdraw() {
        LotSheet x = Sheets.of(FIVE);
        check.same("a printed lot", x.withdraw(0), 3);
        facts(x, 0, 2, 100, 1, 1, 0, 0, 1, 0, 0);
        check.same("a lot that is not printed", x.withdraw(3), 2);
        facts(x, 3, 1, 70, 3, 0, 0, 0, 0, -1, -1);
        check.raises("withdraw(0) again", STATE, () -> x.withdraw(0));
        check.raises("withdraw(1)", STATE, () -> x.withdraw(1));
        check.raises("withdraw(5)", INDEX, () -> x.withdraw(5));
        check.raises("withdraw(-1)", INDEX, () -> x.withdraw(-1));
        LotSheet y = Sheets.of("bill 20;lot 1 1 1 in;");
        y.carry(0);
        y.withdraw(0);
        check.same("a lot that is not different is not slipped", y.lot(0, 5), 0);
        y.restore(0);
        check.same("nor when it is different again", y.lot(0, 5), 0);
    }

    private void restore() {
        LotSheet x = Sheets.of(FIVE);
        check.same("a printed lot", x.restore(1), 1);
        facts(x, 1, 1, 50, 2, 1, 1, 0, 2, 0, 2);
        check.raises("restore(1) again", STATE, () -> x.restore(1));
        check.raises("restore(3)", STATE, () -> x.restore(3));
        check.raises("restore(5)", INDEX, () -> x.restore(5));
        check.raises("restore(-1)", INDEX, () -> x.restore(-1));
        x.withdraw(3);
        check.same("a lot that is not printed", x.restore(3), 1);
        LotSheet y = Sheets.of("bill 20;lot 1 1 1 out;");
        y.carry(0);
        check.same("slipped", y.lot(0, 5), 1);
        y.restore(0);
        check.same("a lot that is not different is not slipped", y.lot(0, 5), 0);
    }

    private void mostDifferent() {
        LotSheet x = Sheets.of("bill 20;" + times(7, "lot 1 1 1in;") + times(3, "lot 1 1 1;"));
        check.same("the 8th", x.withdraw(7), 8);
        long sum = x.checksum();
        check.raises("the 9th", STATE, () -> x.withdraw(8));
        check.raises("not wanted, and none such", INDEX, () -> x.withdraw(10));
        check.same("nothing changed", x.checksum(), sum);
        check.same("one less", x.withdraw(0), 7);
        check.same("8 again", x.withdraw(8), 8);
        check.raises("restore of a lot that is not printed", STATE, () -> x.restore(0));
        check.same("restore of a printed lot", x.restore(8), 7);
        check.same("restore then", x.restore(0), 8);
    }

    private void add() {
        LotSheet x = Sheets.of(FIVE);
        x.carry(0);
        check.same("in the middle", x.add(1, 4, 9999, 9), 6);
        facts(x, 0, 2, 100, 1, 1, 1, 0, 1, 0, 0);
        facts(x, 1, 4, 9999, 9, 0, 1, 0, 0, -1, -1);
        facts(x, 2, 1, 50, 2, 1, 0, 1, 2, 0, 2);
        facts(x, 5, 2, 100, 1, 1, 1, 0, 4, 2, 0);
        check.same("at the end", x.add(6, 1, 0, 0), 7);
        facts(x, 6, 1, 0, 0, 0, 1, 0, 0, -1, -1);
        check.same("at the start", x.add(0, 1, 1, 1), 8);
        check.same("different(0)", x.different(0), 0);
        check.same("different ones", x.state(4), 5);
        check.same("9 lines", Sheets.of("bill 9;").add(0, 9, 0, 0), 1);
        check.same("the account stays", x.state(8), 12);
    }

    private void addWrong() {
        LotSheet x = Sheets.of(FIVE);
        long sum = x.checksum();
        check.raises("at -1", ARGUMENT, () -> x.add(-1, 1, 1, 1));
        check.raises("at 6", ARGUMENT, () -> x.add(6, 1, 1, 1));
        check.raises("lines 0", ARGUMENT, () -> x.add(0, 0, 1, 1));
        check.raises("lines 5 of 4", ARGUMENT, () -> x.add(0, 5, 1, 1));
        check.raises("estimate -1", ARGUMENT, () -> x.add(0, 1, -1, 1));
        check.raises("estimate 10000", ARGUMENT, () -> x.add(0, 1, 10000, 1));
        check.raises("seller -1", ARGUMENT, () -> x.add(0, 1, 1, -1));
        check.raises("seller 10", ARGUMENT, () -> x.add(0, 1, 1, 10));
        check.same("nothing changed", x.checksum(), sum);
        LotSheet y = Sheets.of("bill 20;");
        check.raises("lines 10", ARGUMENT, () -> y.add(0, 10, 1, 1));
        LotSheet full = Sheets.of("bill 20;" + times(23, "lot 1 1 1;"));
        check.same("the 24th", full.add(23, 1, 1, 1), 24);
        check.raises("the 25th", STATE, () -> full.add(24, 1, 1, 1));
        check.raises("the 25th at 25", ARGUMENT, () -> full.add(25, 1, 1, 1));
        LotSheet eight = Sheets.of("bill 20;" + times(7, "lot 1 1 1in;"));
        check.same("the 8th different", eight.add(7, 1, 1, 1), 8);
        check.raises("the 9th different", STATE, () -> eight.add(8, 1, 1, 1));
        check.raises("with wrong lines", ARGUMENT, () -> eight.add(8, 10, 1, 1));
    }

    private void carry() {
        LotSheet x = Sheets.of(FIVE);
        check.same("carry(2)", x.carry(2), 32);
        states("carried", x, 4, 5, 5, 4, 1, 1, 3, 1, 32, 470, 1, 3);
        facts(x, 1, 1, 50, 2, 1, 0, 1, 2, 0, 2);
        facts(x, 3, 1, 70, 3, 1, 1, 0, 4, 1, 3);
        check.raises("carry(2) later", ARGUMENT, () -> x.carry(2));
        check.raises("carry(-1)", ARGUMENT, () -> x.carry(-1));
        check.same("carry(1) of a slipped lot", x.carry(1), 4 + 15 + 10);
        facts(x, 1, 1, 50, 2, 0, 0, 0, 0, -1, -1);
        check.same("account", x.state(8), 61);
        check.same("the empty choice", x.carry(0), 0);
        check.raises("carry(1)", ARGUMENT, () -> x.carry(1));
    }

    private void press() {
        LotSheet x = Sheets.of(FIVE);
        check.same("slips", x.press(), 12);
        check.same("slipped", x.state(5), 2);
        check.same("again", x.press(), 0);
        check.same("account", x.state(8), 12);
        LotSheet y = Sheets.of(FIVE);
        y.setCost(3, 40);
        check.same("set anew", y.press(), 23);
        states("set anew", y, 4, 5, 4, 4, 0, 0, 3, 1, 23, 470, 2, 3);
        check.same("nothing different", new LotSheet().press(), 0);
    }

    private void setCost() {
        LotSheet x = Sheets.of(FIVE);
        check.same("setCost(0, 99)", x.setCost(0, 99), 1);
        check.same("setCost(0, 0)", x.setCost(0, 0), 99);
        check.same("setCost(4, 1)", x.setCost(4, 1), 2);
        figures(x, 0, 10);
        check.same("best costs are new", x.pays(1), 20 - 10);
        check.raises("which -1", ARGUMENT, () -> x.setCost(-1, 1));
        check.raises("which 5", ARGUMENT, () -> x.setCost(5, 1));
        check.raises("cost -1", ARGUMENT, () -> x.setCost(0, -1));
        check.raises("cost 100", ARGUMENT, () -> x.setCost(0, 100));
        check.same("nothing changed", x.setCost(0, 5), 0);
    }

    private void undo() {
        LotSheet x = new LotSheet();
        check.same("none", x.undo(), -1);
        long sum = x.checksum();
        Sheets.load(x, FIVE);
        check.same("the only change", x.undo(), 0);
        check.same("all as it was", x.checksum(), sum);
        check.raises("no pages", INDEX, () -> x.page(0, 0));
        check.raises("no different lots", ELEMENT, () -> x.different(0));
        for (int n = 1; n <= 12; n++) {
            x.setCost(0, n);
        }
        for (int n = 7; n >= 0; n--) {
            check.same("undo", x.undo(), n);
        }
        check.same("the others are final", x.undo(), -1);
        check.same("the cost of the 4th change", x.setCost(0, 50), 4);
        check.same("setCost", x.setCost(0, 60), 50);
        check.same("undo", x.undo(), 1);
        check.same("a change after undo", x.setCost(0, 70), 50);
        check.same("undo", x.undo(), 1);
        check.same("undo", x.undo(), 0);
        check.same("undo", x.undo(), -1);
        check.same("as it was", x.setCost(0, 0), 4);
        for (int n = 0; n < 8; n++) {
            x.press();
        }
        check.same("the latest of 9", x.undo(), 7);
        x.press();
        check.same("still 8", x.undo(), 7);
    }

    private void undoEach() {
        LotSheet x = Sheets.of(FIVE + "slip 2;");
        x.carry(0);
        long sum = x.checksum();
        Sheets.load(x, "bill 30;costs 9 9 9 9 9;slip 1;lot 1 1 1;");
        check.same("undo of load", x.undo(), 2);
        check.same("after load", x.checksum(), sum);
        x.withdraw(3);
        x.undo();
        check.same("after withdraw", x.checksum(), sum);
        x.restore(1);
        x.undo();
        check.same("after restore", x.checksum(), sum);
        x.add(0, 1, 1, 1);
        x.undo();
        check.same("after add", x.checksum(), sum);
        x.carry(3);
        x.undo();
        check.same("after carry", x.checksum(), sum);
        x.setCost(3, 99);
        x.withdraw(0);
        x.press();
        x.undo();
        x.undo();
        x.undo();
        check.same("after press", x.checksum(), sum);
        check.same("best() after undo", x.best(), 0);
        x.add(0, 1, 1, 1);
        check.same("costs are as they were", x.choice(0, 0), 10);
    }

    private void undoNoChange() {
        LotSheet x = Sheets.of("bill 4;lot 1 1 1;");
        x.carry(0);
        x.setCost(0, 1);
        check.same("changes that leave all as it was", x.undo(), 2);
        check.raises("withdraw(1)", INDEX, () -> x.withdraw(1));
        check.raises("restore(0)", STATE, () -> x.restore(0));
        check.raises("add", ARGUMENT, () -> x.add(0, 0, 0, 0));
        check.raises("carry(1)", ARGUMENT, () -> x.carry(1));
        check.raises("setCost", ARGUMENT, () -> x.setCost(5, 5));
        Sheets.load(x, "bill");
        x.best();
        x.checksum();
        Sheets.append(x, "bill 5;");
        check.same("these are no changes", x.undo(), 1);
        check.same("the input buffer is not affected", x.load(7), 0);
        check.same("height", x.state(0), 5);
    }

    private void checksum() {
        LotSheet x = new LotSheet();
        check.same("new", x.checksum(), sumOf(20, 0, 0, 0, 0, 0, 0, 0, 0, 0, 0, 3, 0, 0, 0, 0, 0, 0, 0, 0));
        Sheets.load(x, "bill 4;lot 4 7 2;lot 1 9 3 in;costs 1 2 3 40 5;");
        check.same("two lots", x.checksum(), sumOf(4, 2, 1, 2, 1, 0, 1, 1, 0, 16, 0, 3,
                4, 7, 2, 1, 1, 0, 1, 0, 0, 1, 9, 3, 0, 1, 0, 0, -1, -1, 1, 6, 1, 1, 1, 0, 0, 2));
        check.same("again", x.checksum(), sumOf(4, 2, 1, 2, 1, 0, 1, 1, 0, 16, 0, 3,
                4, 7, 2, 1, 1, 0, 1, 0, 0, 1, 9, 3, 0, 1, 0, 0, -1, -1, 1, 6, 1, 1, 1, 0, 0, 2));
    }

    private static long sumOf(int... numbers) {
        long sum = 0;
        for (int n : numbers) {
            sum = 31 * sum + n;
        }
        return sum;
    }
}
