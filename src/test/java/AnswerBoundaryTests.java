import java.util.NoSuchElementException;
import java.util.function.Supplier;

/** Promises 5 to 17, with lots, pages and choices: a test for each sentence that names a boundary case. */
public final class AnswerBoundaryTests {
    private static final Class<IllegalArgumentException> ARGUMENT = IllegalArgumentException.class;
    private static final Class<IndexOutOfBoundsException> INDEX = IndexOutOfBoundsException.class;
    private static final Class<NoSuchElementException> ELEMENT = NoSuchElementException.class;

    private static final String NONE_PRINTED = "bill 4;lot 4 10 1in;lot 3 20 2in;";
    private static final String NONE_WANTED = "bill 4;lot 4 10 1out;lot 3 20 2out;";
    private static final String PAGES_24 = "bill 9;" + "lot 9 9999 9;".repeat(24);
    private static final String EIGHT_TO_GO = "bill 9;" + "lot 9 9 9out;".repeat(8) + "lot 9 9 9;".repeat(16)
            + "costs 99 99 99 99 99;slip 1;";

    private final Check check = new Check();
    private final Twins twins = new Twins(check);

    public static void main(String[] args) {
        AnswerBoundaryTests t = new AnswerBoundaryTests();
        t.states();
        t.lots();
        t.pages();
        t.orders();
        t.choices();
        t.sums();
        t.check.end();
    }

    /** For what has the values 0 to n - 1: the next ones beyond them and those farthest off. */
    private static int[] beyond(int n) {
        return new int[] {-1, n, -2, n + 1, n + 256, Integer.MIN_VALUE, Integer.MAX_VALUE};
    }

    private static Supplier<LotSheet> of(String text) {
        return () -> Sheets.of(text);
    }

    private void facts(LotSheet x, int lot, int... due) {
        for (int i = 0; i < due.length; i++) {
            check.same("lot(" + lot + ", " + i + ")", x.lot(lot, i), due[i]);
        }
    }

    private void figures(LotSheet x, int choice, int... due) {
        for (int i = 0; i < due.length; i++) {
            check.same("choice(" + choice + ", " + i + ")", x.choice(choice, i), due[i]);
        }
    }

    // ---- state

    private void states() {
        check.test("5: what is 0 to 11", this::whatOfState);
        check.test("5: the least and the greatest height", this::heights);
        check.test("5: lots, 0 to 24", this::lotsOfState);
        check.test("5: different ones, 0 to 8", this::differentOnes);
        check.test("5: slipped ones, 0 to 8", this::slippedOnes);
        check.test("5: pages and gatherings, without lots and with as many as can be", this::gatherings);
        check.test("5: the account, 0 and many times the dearest choice", this::account);
        check.test("5: estimates of all wanted lots, the least and the greatest sum", this::estimates);
        check.test("5: blank lines of all pages but the last one", this::blankLines);
        check.test("5: entries for which a slip has room, 1 to 9", this::room);
    }

    private void whatOfState() {
        for (int what : beyond(12)) {
            twins.refuse("state(" + what + ")", ARGUMENT, Twins::busy, x -> x.state(what));
            check.raises("state(" + what + ") of a new object", ARGUMENT, () -> new LotSheet().state(what));
        }
        LotSheet x = Sheets.of("bill 10;slip 6;costs 0 0 0 0 13;lot 9 100 1;lot 4 50 2in;lot 4 50 2in;lot 4 50 2in;"
                + "lot 3 70 3;lot 9 1 1out;lot 1 1 1;");
        x.carry(1);
        x.add(7, 5, 9, 8);
        int[] due = {10, 8, 5, 7, 4, 3, 3, 1, 3 * 13, 100 + 50 + 50 + 50 + 70 + 1 + 9, 1 + 3, 6};
        for (int what = 0; what < 12; what++) {
            check.same("state(" + what + ")", x.state(what), due[what]);
        }
    }

    private void heights() {
        check.same("the least", Sheets.of("bill 4;").state(0), 4);
        check.same("the greatest", Sheets.of("bill 40;").state(0), 40);
    }

    private void lotsOfState() {
        LotSheet x = new LotSheet();
        check.same("none", x.state(1) + x.state(2) + x.state(3), 0);
        LotSheet full = Sheets.of(PAGES_24);
        for (int what = 1; what <= 3; what++) {
            check.same("state(" + what + ") of a full bill", full.state(what), 24);
        }
        LotSheet printed = Sheets.of(NONE_WANTED);
        check.same("all printed", printed.state(2), 2);
        check.same("none wanted", printed.state(3), 0);
        LotSheet wanted = Sheets.of(NONE_PRINTED);
        check.same("none printed", wanted.state(2), 0);
        check.same("all wanted", wanted.state(3), 2);
    }

    private void differentOnes() {
        for (int n = 0; n <= 8; n++) {
            check.same("to come", Sheets.of("bill 9;" + "lot 1 1 1in;".repeat(n) + "lot 1 1 1;").state(4), n);
            check.same("to go", Sheets.of("bill 9;lot 1 1 1;" + "lot 1 1 1out;".repeat(n)).state(4), n);
        }
    }

    private void slippedOnes() {
        for (int n = 0; n <= 8; n++) {
            LotSheet x = Sheets.of("bill 9;" + "lot 1 1 1in;".repeat(n) + "lot 1 1 1;");
            check.same("slipped at first", x.state(5), 0);
            x.carry(0);
            check.same("slipped", x.state(5), n);
            check.same("still different", x.state(4), n);
        }
    }

    private void gatherings() {
        int[] due = {0, 1, 1, 1, 1, 2, 2, 2, 2, 3, 3, 3, 3, 4, 4, 4, 4, 5, 5, 5, 5, 6, 6, 6, 6};
        for (int n = 0; n <= 24; n++) {
            LotSheet x = Sheets.of("bill 4;" + "lot 3 1 1;".repeat(n));
            check.same("pages", x.state(6), n);
            check.same("gatherings of " + n + " pages", x.state(7), due[n]);
        }
        LotSheet none = Sheets.of(NONE_PRINTED);
        check.same("pages without printed lots", none.state(6), 0);
        check.same("gatherings without printed lots", none.state(7), 0);
    }

    private void account() {
        LotSheet x = Sheets.of(EIGHT_TO_GO);
        check.same("at first", x.state(8), 0);
        check.same("24 pages change", x.carry(255), 99 * (216 + 24 + 6));
        for (int lot = 8; lot < 16; lot++) {
            x.withdraw(lot);
        }
        check.same("16 pages change", x.carry(255), 99 * (144 + 16 + 4));
        int due = 24354 + 16236;
        check.same("the account", x.state(8), due);
        for (int n = 0; n < 20; n++) {
            for (int lot = 0; lot < 8; lot++) {
                x.restore(lot);
            }
            due += x.carry(255);
            for (int lot = 0; lot < 8; lot++) {
                x.withdraw(lot);
            }
            due += x.carry(255);
            check.same("the account after " + n, x.state(8), due);
        }
        check.isTrue("it has got great", due > 600000);
    }

    private void estimates() {
        check.same("no lot", new LotSheet().state(9), 0);
        check.same("none wanted", Sheets.of(NONE_WANTED).state(9), 0);
        check.same("estimates of 0", Sheets.of("bill 4;lot 1 0 1;lot 1 0 1in;").state(9), 0);
        check.same("the greatest", Sheets.of(PAGES_24).state(9), 24 * 9999);
    }

    private void blankLines() {
        check.same("no page", new LotSheet().state(10), 0);
        check.same("one page", Sheets.of("bill 40;lot 1 1 1;").state(10), 0);
        check.same("one full page", Sheets.of("bill 4;lot 4 1 1;").state(10), 0);
        check.same("two pages", Sheets.of("bill 10;lot 7 1 1;lot 4 1 1;").state(10), 3);
        check.same("the last page has no part", Sheets.of("bill 10;lot 7 1 1;lot 9 1 1;lot 2 1 1;").state(10), 3 + 1);
        check.same("full pages", Sheets.of(PAGES_24).state(10), 0);
        check.same("24 pages", Sheets.of("bill 17;" + "lot 9 1 1;".repeat(24)).state(10), 23 * 8);
    }

    private void room() {
        check.same("without slip", Sheets.of("bill 4;").state(11), 3);
        for (int n = 1; n <= 9; n++) {
            check.same("state(11)", Sheets.of("bill 4;slip " + n + ";").state(11), n);
        }
    }

    // ---- lot

    private void lots() {
        check.test("6: a lot is an index of a lot", this::indexOfLot);
        check.test("6: what is 0 to 8", this::whatOfLot);
        check.test("6: no such lot comes ahead of what", this::lotAheadOfWhat);
        check.test("6: the least and the greatest lot", this::leastAndGreatestLot);
        check.test("6: a lot that is not printed has the number 0, and page and line -1", this::notPrinted);
        check.test("6: numbers from 1 to 24, rising by one", this::numbersRise);
        check.test("6: the first and the last line on which a lot begins", this::linesOfPage);
        check.test("pages: a lot stays on the page if all its lines have room", this::roomOnPage);
        check.test("lots: one that is not different is not slipped", this::notDifferentNotSlipped);
    }

    private void indexOfLot() {
        for (int lot : beyond(5)) {
            twins.refuse("lot(" + lot + ", 0)", INDEX, Twins::busy, x -> x.lot(lot, 0));
        }
        for (int lot : beyond(24)) {
            check.raises("lot(" + lot + ", 0) of 24", INDEX, () -> Sheets.of(PAGES_24).lot(lot, 0));
        }
        for (int lot : beyond(0)) {
            check.raises("lot(" + lot + ", 0) of none", INDEX, () -> new LotSheet().lot(lot, 0));
        }
        check.same("the first of 5", Twins.busy().lot(0, 1), 100);
        check.same("the last of 5", Twins.busy().lot(4, 1), 60);
        LotSheet fewer = Sheets.of(PAGES_24);
        Sheets.load(fewer, "bill 4;lot 1 1 1;");
        check.raises("a lot of the bill before", INDEX, () -> fewer.lot(1, 0));
    }

    private void whatOfLot() {
        for (int what : beyond(9)) {
            twins.refuse("lot(0, " + what + ")", ARGUMENT, Twins::busy, x -> x.lot(0, what));
            check.raises("lot(2, " + what + ") of one not printed", ARGUMENT, () -> Twins.busy().lot(2, what));
        }
        facts(Sheets.of("bill 7;lot 5 1 1;lot 1 44 8out;lot 6 3 3;lot 1 4 1;"), 3, 1, 4, 1, 1, 1, 0, 4, 1, 6);
    }

    private void lotAheadOfWhat() {
        for (int what : beyond(9)) {
            twins.refuse("lot(-1, " + what + ")", INDEX, Twins::busy, x -> x.lot(-1, what));
            twins.refuse("lot(5, " + what + ")", INDEX, Twins::busy, x -> x.lot(5, what));
            check.raises("lot(0, " + what + ") of none", INDEX, () -> new LotSheet().lot(0, what));
        }
    }

    private void leastAndGreatestLot() {
        LotSheet x = Sheets.of("bill 9;lot 1 0 0;lot 9 9999 9;lot 1 0 0in;lot 9 9999 9in;");
        facts(x, 0, 1, 0, 0, 1, 1, 0, 1, 0, 0);
        facts(x, 1, 9, 9999, 9, 1, 1, 0, 2, 1, 0);
        facts(x, 2, 1, 0, 0, 0, 1, 0, 0, -1, -1);
        facts(x, 3, 9, 9999, 9, 0, 1, 0, 0, -1, -1);
    }

    private void notPrinted() {
        LotSheet x = Sheets.of("bill 4;lot 1 1 1in;lot 2 2 2;lot 3 3 3in;lot 4 4 4;lot 1 5 5in;");
        for (int lot : new int[] {0, 2, 4}) {
            check.same("printed", x.lot(lot, 3), 0);
            check.same("number", x.lot(lot, 6), 0);
            check.same("page", x.lot(lot, 7), -1);
            check.same("line", x.lot(lot, 8), -1);
        }
        x.withdraw(0);
        facts(x, 0, 1, 1, 1, 0, 0, 0, 0, -1, -1);
        x.withdraw(1);
        x.carry(1);
        facts(x, 1, 2, 2, 2, 0, 0, 0, 0, -1, -1);
    }

    private void numbersRise() {
        LotSheet x = Sheets.of(PAGES_24);
        for (int lot = 0; lot < 24; lot++) {
            check.same("number of lot " + lot, x.lot(lot, 6), lot + 1);
            check.same("page of lot " + lot, x.lot(lot, 7), lot);
            check.same("line of lot " + lot, x.lot(lot, 8), 0);
        }
        LotSheet y = Sheets.of("bill 40;" + "lot 1 1 1in;lot 1 1 1;".repeat(8));
        for (int n = 1; n <= 8; n++) {
            check.same("number " + n, y.lot(2 * n - 1, 6), n);
            check.same("line of number " + n, y.lot(2 * n - 1, 8), n - 1);
        }
    }

    private void linesOfPage() {
        LotSheet x = Sheets.of("bill 40;" + "lot 9 1 1;".repeat(4) + "lot 3 1 1;lot 1 1 1;lot 1 1 1;");
        facts(x, 0, 9, 1, 1, 1, 1, 0, 1, 0, 0);
        facts(x, 5, 1, 1, 1, 1, 1, 0, 6, 0, 39);
        facts(x, 6, 1, 1, 1, 1, 1, 0, 7, 1, 0);
    }

    private void roomOnPage() {
        for (int height = 10; height <= 18; height++) {
            LotSheet just = Sheets.of("bill " + height + ";lot 9 1 1;lot " + (height - 9) + " 1 1;");
            check.same("just room: page", just.lot(1, 7), 0);
            check.same("just room: line", just.lot(1, 8), 9);
            check.same("just room: pages", just.state(6), 1);
        }
        for (int height = 9; height <= 17; height++) {
            LotSheet more = Sheets.of("bill " + height + ";lot 9 1 1;lot " + (height - 8) + " 1 1;");
            check.same("a line too many: page", more.lot(1, 7), 1);
            check.same("a line too many: line", more.lot(1, 8), 0);
            check.same("a line too many: pages", more.state(6), 2);
        }
        check.same("as many lines as the height", Sheets.of("bill 4;lot 4 1 1;").state(6), 1);
        // A short lot does not go back to a page that has room, once another page has begun.
        LotSheet y = Sheets.of("bill 4;lot 1 1 1;lot 4 1 1;lot 1 1 1;");
        check.same("page of the last lot", y.lot(2, 7), 2);
        check.same("it is not put behind the first one", y.page(0, 0), 1);
    }

    private void notDifferentNotSlipped() {
        LotSheet x = Sheets.of("bill 9;lot 1 1 1in;lot 1 1 1out;lot 1 1 1in;lot 1 1 1out;");
        x.carry(0);
        check.same("all slipped", x.state(5), 4);
        x.withdraw(0);
        check.same("withdrawn", x.lot(0, 5), 0);
        x.restore(1);
        check.same("restored", x.lot(1, 5), 0);
        check.same("those that are left", x.state(5), 2);
        x.carry(3);
        check.same("set anew, one that was to come", x.lot(2, 5), 0);
        check.same("set anew, one that was to go", x.lot(3, 5), 0);
        check.same("none slipped", x.state(5), 0);
        x.restore(0);
        x.withdraw(1);
        check.same("different again, not slipped again", x.state(5), 0);
    }

    // ---- page, standing

    private void pages() {
        check.test("7: a page is the index of a page of the printed lots", this::indexOfPage);
        check.test("7: what is 0 to 3", this::whatOfPage);
        check.test("7: no such page comes ahead of what", this::pageAheadOfWhat);
        check.test("7: the fullest and the emptiest page", this::fullestPage);
        check.test("8: a page is the index of a page of the printed lots", this::pageOfStanding);
        check.test("8: a line is 0 to the height less 1", this::lineOfStanding);
        check.test("8: no such page comes ahead of the line", this::pageAheadOfLine);
        check.test("8: -1 if nothing stands there", this::nothingStands);
        check.test("8: the least and the greatest answer", this::greatestStanding);
    }

    private void indexOfPage() {
        for (int page : beyond(3)) {
            twins.refuse("page(" + page + ", 0)", INDEX, Twins::busy, x -> x.page(page, 0));
        }
        for (int page : beyond(24)) {
            check.raises("page(" + page + ", 0) of 24", INDEX, () -> Sheets.of(PAGES_24).page(page, 0));
        }
        for (int page : beyond(0)) {
            check.raises("page(" + page + ", 0) of none", INDEX, () -> new LotSheet().page(page, 0));
            check.raises("page(" + page + ", 0), none printed", INDEX, () -> Sheets.of(NONE_PRINTED).page(page, 0));
        }
        LotSheet x = Sheets.of(NONE_WANTED);
        check.same("page(1, 1)", x.page(1, 1), 1);
        x.carry(1);
        check.raises("page(1, 1) of a bill that got shorter", INDEX, () -> x.page(1, 1));
        check.same("page(0, 1)", x.page(0, 1), 1);
        x.carry(1);
        check.raises("page(0, 1) of none", INDEX, () -> x.page(0, 1));
    }

    private void whatOfPage() {
        for (int what : beyond(4)) {
            twins.refuse("page(0, " + what + ")", ARGUMENT, Twins::busy, x -> x.page(0, what));
            check.raises("page(23, " + what + ")", ARGUMENT, () -> Sheets.of(PAGES_24).page(23, what));
        }
    }

    private void pageAheadOfWhat() {
        for (int what : beyond(4)) {
            twins.refuse("page(-1, " + what + ")", INDEX, Twins::busy, x -> x.page(-1, what));
            twins.refuse("page(3, " + what + ")", INDEX, Twins::busy, x -> x.page(3, what));
            check.raises("page(0, " + what + ") of none", INDEX, () -> new LotSheet().page(0, what));
        }
    }

    private void page(LotSheet x, int page, int... due) {
        for (int what = 0; what < due.length; what++) {
            check.same("page(" + page + ", " + what + ")", x.page(page, what), due[what]);
        }
    }

    private void fullestPage() {
        page(Sheets.of("bill 40;" + "lot 1 9999 1;".repeat(24)), 0, 24, 0, 16, 24 * 9999);
        page(Sheets.of("bill 40;lot 1 0 1;"), 0, 1, 0, 39, 0);
        page(Sheets.of("bill 4;lot 4 7 1out;"), 0, 1, 0, 0, 0);
        page(Sheets.of("bill 4;lot 4 7 1in;lot 2 5 1out;lot 1 6 1;lot 1 8 1out;"), 0, 3, 1, 0, 6);
        LotSheet full = Sheets.of(PAGES_24);
        for (int p = 0; p < 24; p++) {
            page(full, p, 1, p, 0, 9999);
        }
    }

    private void pageOfStanding() {
        for (int page : beyond(3)) {
            twins.refuse("standing(" + page + ", 0)", INDEX, Twins::busy, x -> x.standing(page, 0));
        }
        for (int page : beyond(24)) {
            check.raises("standing(" + page + ", 0) of 24", INDEX, () -> Sheets.of(PAGES_24).standing(page, 0));
        }
        for (int page : beyond(0)) {
            check.raises("standing(" + page + ", 0) of none", INDEX, () -> new LotSheet().standing(page, 0));
            check.raises("standing(" + page + ", 0), none printed", INDEX,
                    () -> Sheets.of(NONE_PRINTED).standing(page, 0));
        }
    }

    private void lineOfStanding() {
        for (int line : beyond(9)) {
            twins.refuse("standing(0, " + line + ")", ARGUMENT, Twins::busy, x -> x.standing(0, line));
        }
        for (int height : new int[] {4, 9, 20, 40}) {
            String text = "bill " + height + ";lot 1 1 1;";
            check.same("the first line", Sheets.of(text).standing(0, 0), 0);
            check.same("the last line of " + height, Sheets.of(text).standing(0, height - 1), -1);
            for (int line : beyond(height)) {
                twins.refuse("standing(0, " + line + ")", ARGUMENT, of(text), x -> x.standing(0, line));
            }
        }
    }

    private void pageAheadOfLine() {
        for (int line : beyond(9)) {
            twins.refuse("standing(-1, " + line + ")", INDEX, Twins::busy, x -> x.standing(-1, line));
            twins.refuse("standing(3, " + line + ")", INDEX, Twins::busy, x -> x.standing(3, line));
            check.raises("standing(0, " + line + ") of none", INDEX, () -> new LotSheet().standing(0, line));
        }
    }

    private void nothingStands() {
        LotSheet x = Sheets.of("bill 6;lot 2 1 1in;lot 5 1 1;lot 2 1 1;lot 3 1 1in;lot 4 1 1;");
        int[][] due = {{10, 11, 12, 13, 14, -1}, {20, 21, 40, 41, 42, 43}};
        for (int p = 0; p < 2; p++) {
            for (int line = 0; line < 6; line++) {
                check.same("standing(" + p + ", " + line + ")", x.standing(p, line), due[p][line]);
            }
        }
        LotSheet y = Sheets.of("bill 40;lot 1 1 1;");
        for (int line = 1; line < 40; line++) {
            check.same("standing(0, " + line + ")", y.standing(0, line), -1);
        }
        LotSheet full = Sheets.of("bill 40;" + "lot 1 1 1;".repeat(24));
        for (int line = 0; line < 40; line++) {
            check.same("24 lots, line " + line, full.standing(0, line), line < 24 ? 10 * line : -1);
        }
    }

    private void greatestStanding() {
        LotSheet x = Sheets.of(PAGES_24);
        check.same("the first line of all", x.standing(0, 0), 0);
        check.same("the last line of all", x.standing(23, 8), 238);
        LotSheet y = Sheets.of("bill 40;" + "lot 9 1 1;".repeat(4) + "lot 4 1 1;");
        check.same("the last line of a page", y.standing(0, 39), 43);
    }

    // ---- numbered, different, dearest, through

    private void orders() {
        check.test("9: numbers from 1 to that of the last printed lot", this::numbered);
        check.test("9: 0 is no number on the bill", this::numberZero);
        check.test("10: j from 0 to the last different lot", this::different);
        check.test("14: k from 0 to the last wanted lot", this::dearest);
        check.test("14: of several dearest the smallest index", this::dearestOfSeveral);
        check.test("14: wanted lots alone", this::dearestWanted);
        check.test("16: lines from 0 to the last one with something on it", this::through);
        check.test("16: 9999 and 10000 are refused alike", this::throughBounds);
    }

    private void numbered() {
        for (int number : new int[] {-1, 5, 6, 24, 256, Integer.MIN_VALUE, Integer.MAX_VALUE}) {
            twins.refuse("numbered(" + number + ")", ELEMENT, Twins::busy, x -> x.numbered(number));
        }
        LotSheet x = Sheets.of("bill 4;lot 1 1 1in;lot 2 1 1;lot 3 1 1out;lot 1 1 1in;lot 4 1 1;");
        check.same("the first", x.numbered(1), 1);
        check.same("the second", x.numbered(2), 2);
        check.same("the last", x.numbered(3), 4);
        check.raises("the next", ELEMENT, () -> x.numbered(4));
        LotSheet full = Sheets.of(PAGES_24);
        for (int n = 1; n <= 24; n++) {
            check.same("numbered(" + n + ")", full.numbered(n), n - 1);
        }
        check.raises("numbered(25)", ELEMENT, () -> full.numbered(25));
        check.raises("numbered(1), none printed", ELEMENT, () -> Sheets.of(NONE_PRINTED).numbered(1));
        check.raises("numbered(1) of none", ELEMENT, () -> new LotSheet().numbered(1));
    }

    private void numberZero() {
        twins.refuse("numbered(0)", ELEMENT, Twins::busy, x -> x.numbered(0));
        twins.refuse("numbered(0), none printed", ELEMENT, of(NONE_PRINTED), x -> x.numbered(0));
        twins.refuse("numbered(0), all printed", ELEMENT, of(PAGES_24), x -> x.numbered(0));
        check.raises("numbered(0) of none", ELEMENT, () -> new LotSheet().numbered(0));
    }

    private void different() {
        for (int j : beyond(3)) {
            twins.refuse("different(" + j + ")", ELEMENT, Twins::busy, x -> x.different(j));
        }
        for (int j : beyond(8)) {
            twins.refuse("different(" + j + ") of 8", ELEMENT, Twins::manyDifferent, x -> x.different(j));
        }
        for (int j : beyond(0)) {
            check.raises("different(" + j + ") of none", ELEMENT, () -> new LotSheet().different(j));
            check.raises("different(" + j + "), none different", ELEMENT, () -> Sheets.of(PAGES_24).different(j));
        }
        LotSheet x = Sheets.of("bill 9;" + "lot 1 1 1;lot 1 1 1;lot 1 1 1in;".repeat(8));
        for (int j = 0; j < 8; j++) {
            check.same("different(" + j + ")", x.different(j), 3 * j + 2);
        }
        LotSheet ends = Sheets.of("bill 9;lot 1 1 1out;" + "lot 1 1 1;".repeat(22) + "lot 1 1 1in;");
        check.same("the first lot", ends.different(0), 0);
        check.same("the last lot", ends.different(1), 23);
    }

    private void dearest() {
        for (int k : beyond(3)) {
            twins.refuse("dearest(" + k + ")", ELEMENT, Twins::busy, x -> x.dearest(k));
        }
        for (int k : beyond(24)) {
            check.raises("dearest(" + k + ") of 24", ELEMENT, () -> Sheets.of(PAGES_24).dearest(k));
        }
        for (int k : beyond(0)) {
            check.raises("dearest(" + k + ") of none", ELEMENT, () -> new LotSheet().dearest(k));
            check.raises("dearest(" + k + "), none wanted", ELEMENT, () -> Sheets.of(NONE_WANTED).dearest(k));
        }
        check.same("the first", Twins.busy().dearest(0), 2);
        check.same("the last", Twins.busy().dearest(2), 3);
    }

    private void dearestOfSeveral() {
        LotSheet all = Sheets.of(PAGES_24);
        LotSheet zeros = Sheets.of("bill 9;" + "lot 1 0 1;".repeat(24));
        for (int k = 0; k < 24; k++) {
            check.same("dearest(" + k + ") of equals", all.dearest(k), k);
            check.same("dearest(" + k + ") of estimates of 0", zeros.dearest(k), k);
        }
        LotSheet x = Sheets.of("bill 9;lot 1 0 1;lot 1 5 1;lot 1 9999 1;lot 1 5 1in;lot 1 0 1;lot 1 9999 1;lot 1 4 1;");
        int[] due = {2, 5, 1, 3, 6, 0, 4};
        for (int k = 0; k < 7; k++) {
            check.same("dearest(" + k + ")", x.dearest(k), due[k]);
        }
    }

    private void dearestWanted() {
        LotSheet x = Sheets.of("bill 9;lot 1 9 1out;lot 1 5 1in;lot 1 7 1;");
        check.same("the dearest", x.dearest(0), 2);
        check.same("the next one, which is not printed", x.dearest(1), 1);
        check.raises("the one that is not wanted", ELEMENT, () -> x.dearest(2));
    }

    private void through() {
        for (int line : beyond(21)) {
            twins.refuse("through(" + line + ")", ELEMENT, () -> Sheets.of("bill 9;lot 9 1 1;lot 3 1 1in;lot 6 1 1out;"
                    + "lot 6 1 1;"), x -> x.through(line));
        }
        LotSheet x = Sheets.of("bill 9;lot 9 1 1;lot 3 1 1in;lot 6 1 1out;lot 6 1 1;");
        int[] due = {0, 0, 0, 0, 0, 0, 0, 0, 0, 2, 2, 2, 2, 2, 2, 3, 3, 3, 3, 3, 3};
        for (int line = 0; line < due.length; line++) {
            check.same("through(" + line + ")", x.through(line), due[line]);
        }
        LotSheet full = Sheets.of(PAGES_24);
        for (int line = 0; line < 216; line++) {
            check.same("through(" + line + ")", full.through(line), line / 9);
        }
        check.raises("through(216)", ELEMENT, () -> full.through(216));
        check.raises("through(0) of none", ELEMENT, () -> new LotSheet().through(0));
        check.raises("through(0), none printed", ELEMENT, () -> Sheets.of(NONE_PRINTED).through(0));
        check.same("the only line", Sheets.of("bill 4;lot 1 1 1;").through(0), 0);
        check.raises("the next line", ELEMENT, () -> Sheets.of("bill 4;lot 1 1 1;").through(1));
    }

    private void throughBounds() {
        for (int line : new int[] {9998, 9999, 10000, 10001, -1, -9999, Integer.MIN_VALUE, Integer.MAX_VALUE}) {
            twins.refuse("through(" + line + ")", ELEMENT, Twins::busy, x -> x.through(line));
            twins.refuse("through(" + line + ") of 216", ELEMENT, of(PAGES_24), x -> x.through(line));
            twins.refuse("through(" + line + ") of none", ELEMENT, LotSheet::new, x -> x.through(line));
        }
    }

    // ---- best, choice, pays

    private void choices() {
        check.test("11: 0 if no lot is different", this::bestOfNone);
        check.test("11: of several the one that is smallest as a number", this::bestOfSeveral);
        check.test("11: the least and the greatest choice", this::bestExtremes);
        check.test("12: a choice is 0 to 2^n - 1", this::setsOfDifferentLots);
        check.test("12: what is 0 to 6", this::whatOfChoice);
        check.test("12: a wrong choice with a wrong what", this::bothWrong);
        check.test("12: the empty choice changes no line", this::emptyChoice);
        check.test("12: lines beyond the last page, ahead or behind", this::beyondLastPage);
        check.test("12: the number alone changes the first line of a lot", this::numberAlone);
        check.test("12: gatherings, each first page that changes", this::changedGatherings);
        check.test("12: slips, each room and each number of entries", this::slips);
        check.test("12: slipped lots are no entries", this::slippedEntries);
        check.test("12: costs of 0 and of 99", this::leastAndGreatestCosts);
        check.test("13: a lot is an index of a lot", this::indexOfPays);
        check.test("13: 0 if the lot is not different", this::paysOfNotDifferent);
        check.test("13: above and below 0", this::paysSigns);
        check.test("13: with 8 different lots", this::paysOf8);
    }

    private void bestOfNone() {
        check.same("a new object", new LotSheet().best(), 0);
        check.same("no lots", Sheets.of("bill 4;").best(), 0);
        check.same("none different", Sheets.of(PAGES_24).best(), 0);
        LotSheet x = Sheets.of(NONE_WANTED + "costs 0 0 0 99 99;");
        check.same("two different", x.best(), 3);
        x.press();
        check.same("none any more", x.best(), 0);
    }

    private void bestOfSeveral() {
        check.same("all choices cost 0", Sheets.of(EIGHT_TO_GO.replace("99", "0")).best(), 0);
        // Choices 1, 2 and 3 cost the same, 0 costs more.
        LotSheet x = Sheets.of("bill 9;lot 1 1 1in;lot 1 1 1in;costs 0 9 0 8 0;slip 1;");
        figures(x, 0, 16);
        figures(x, 1, 17);
        x.setCost(1, 8);
        figures(x, 1, 16);
        figures(x, 2, 16);
        figures(x, 3, 8);
        check.same("the cheapest", x.best(), 3);
        LotSheet y = Sheets.of("bill 4;lot 4 1 1in;lot 4 1 1in;costs 0 8 0 8 0;slip 1;");
        for (int c = 0; c < 4; c++) {
            figures(y, c, 16);
        }
        check.same("of four", y.best(), 0);
        y.setCost(4, 1);
        figures(y, 1, 17);
        figures(y, 3, 16);
        check.same("3 alone", y.best(), 3);
        // The first lot is slipped, so that 254 and 255 both cost nothing.
        LotSheet z = Sheets.of("bill 9;lot 1 1 1in;costs 0 0 0 9 0;");
        z.carry(0);
        for (int at = 1; at < 8; at++) {
            z.add(at, 1, 1, 1);
        }
        figures(z, 253, 9);
        figures(z, 254, 0);
        figures(z, 255, 0);
        check.same("of the last two", z.best(), 254);
    }

    private void bestExtremes() {
        LotSheet x = Sheets.of(EIGHT_TO_GO);
        check.same("the least", x.best(), 0);
        x.setCost(0, 0);
        x.setCost(1, 0);
        x.setCost(2, 0);
        check.same("the greatest", x.best(), 255);
        check.same("its costs", x.choice(255, 0), 0);
    }

    private void setsOfDifferentLots() {
        for (int n = 0; n <= 8; n++) {
            String text = "bill 9;lot 2 2 2;" + "lot 1 1 1in;".repeat(n);
            int choices = 1 << n;
            check.same("choice(0, 5)", Sheets.of(text).choice(0, 5), n);
            check.same("choice(" + (choices - 1) + ", 5)", Sheets.of(text).choice(choices - 1, 5), 0);
            for (int c : beyond(choices)) {
                twins.refuse("choice(" + c + ", 0) of " + n, ARGUMENT, of(text), x -> x.choice(c, 0));
            }
        }
        check.same("choice(0, 0) of a new object", new LotSheet().choice(0, 0), 0);
        for (int c : beyond(8)) {
            twins.refuse("choice(" + c + ", 0)", ARGUMENT, Twins::busy, x -> x.choice(c, 0));
        }
    }

    private void whatOfChoice() {
        for (int what : beyond(7)) {
            twins.refuse("choice(0, " + what + ")", ARGUMENT, Twins::busy, x -> x.choice(0, what));
            twins.refuse("choice(7, " + what + ")", ARGUMENT, Twins::busy, x -> x.choice(7, what));
            check.raises("choice(0, " + what + ") of none", ARGUMENT, () -> new LotSheet().choice(0, what));
        }
        for (int what = 0; what < 7; what++) {
            check.same("choice(0, " + what + ") of none", new LotSheet().choice(0, what), 0);
        }
    }

    private void bothWrong() {
        for (int what : beyond(7)) {
            twins.refuse("choice(-1, " + what + ")", ARGUMENT, Twins::busy, x -> x.choice(-1, what));
            twins.refuse("choice(8, " + what + ")", ARGUMENT, Twins::busy, x -> x.choice(8, what));
        }
    }

    private void emptyChoice() {
        figures(Sheets.of("bill 9;lot 9 1 1;lot 1 1 1;"), 0, 0, 0, 0, 0, 0, 0, 2);
        figures(Sheets.of(NONE_PRINTED), 0, 8 + 4, 0, 0, 0, 1, 2, 0);
        figures(Sheets.of(NONE_WANTED), 0, 8 + 4, 0, 0, 0, 1, 2, 2);
    }

    private void beyondLastPage() {
        // The pages of the bill before have no part in it.
        LotSheet longer = Sheets.of(PAGES_24);
        Sheets.load(longer, "bill 9;lot 1 1 1;lot 9 1 1in;lot 2 1 1in;");
        figures(longer, 1, 9 + 5 + 10 + 8 + 2, 9, 1, 1, 1, 1, 2);
        figures(longer, 3, 11 + 10 + 10, 11, 2, 1, 0, 0, 3);
        figures(longer, 0, 8 + 4, 0, 0, 0, 1, 2, 1);
        LotSheet none = Sheets.of(NONE_PRINTED);
        figures(none, 3, 7 + 10 + 10, 7, 2, 1, 0, 0, 2);
        figures(none, 1, 4 + 5 + 10 + 8 + 2, 4, 1, 1, 1, 1, 1);
        figures(none, 2, 3 + 5 + 10 + 8 + 2, 3, 1, 1, 1, 1, 1);
        LotSheet all = Sheets.of(NONE_WANTED);
        figures(all, 3, 7 + 10 + 10, 7, 2, 1, 0, 0, 0);
        figures(all, 2, 3 + 5 + 10 + 8 + 2, 3, 1, 1, 1, 1, 1);
        // Lot 1 comes from page 1 to page 0, where four lines were in use and three are then.
        figures(all, 1, 7 + 10 + 10 + 8 + 2, 7, 2, 1, 1, 1, 1);
        // Blank lines are no change: both pages have two of them.
        figures(Sheets.of("bill 4;lot 2 1 1;lot 3 1 1;lot 2 1 1out;"), 1, 2 + 5 + 10, 2, 1, 1, 0, 0, 2);
    }

    private void numberAlone() {
        // Lot 1 fills page 0; lot 2 keeps its place on page 1, and its number becomes 3.
        LotSheet x = Sheets.of("bill 4;lot 3 1 1;lot 1 1 1in;lot 4 1 1;");
        figures(x, 1, 2 + 10 + 10, 2, 2, 1, 0, 0, 2);
        // Here lot 2 is pushed to page 1, and lot 3 to page 2.
        LotSheet one = Sheets.of("bill 4;lot 3 1 1;lot 1 1 1in;lot 1 1 1;lot 4 1 1;");
        figures(one, 1, 9 + 15 + 10, 1 + 4 + 4, 3, 1, 0, 0, 3);
        // 23 lots behind get another number and keep their places.
        LotSheet full = Sheets.of("bill 9;lot 8 1 1;lot 1 1 1out;" + "lot 9 1 1;".repeat(22));
        figures(full, 1, 23 + 23 * 5 + 6 * 10, 23, 23, 6, 0, 0, 23);
    }

    private void changedGatherings() {
        for (int n = 0; n < 24; n++) {
            LotSheet x = Sheets.of(PAGES_24);
            x.withdraw(n);
            check.same("changed lines from page " + n, x.choice(1, 1), 9 * (24 - n));
            check.same("changed pages from page " + n, x.choice(1, 2), 24 - n);
            check.same("changed gatherings from page " + n, x.choice(1, 3), 6 - n / 4);
            check.same("pages behind", x.choice(1, 6), 23);
        }
        check.same("pages 3 and 4", gatheringsOfReplaced(3, 4), 2);
        check.same("pages 0 and 3", gatheringsOfReplaced(0, 3), 1);
        check.same("pages 4 and 7", gatheringsOfReplaced(4, 7), 1);
        check.same("pages 0 and 4", gatheringsOfReplaced(0, 4), 2);
        check.same("pages 3 and 7", gatheringsOfReplaced(3, 7), 2);
    }

    /** On two of eight pages a lot of four lines takes the place of another one. */
    private static int gatheringsOfReplaced(int first, int second) {
        StringBuilder text = new StringBuilder("bill 4;");
        for (int p = 0; p < 8; p++) {
            text.append(p == first || p == second ? "lot 4 1 1out;lot 4 1 1in;" : "lot 4 1 1;");
        }
        return Sheets.of(text.toString()).choice(15, 3);
    }

    private void slips() {
        for (int room = 1; room <= 9; room++) {
            for (int n = 0; n <= 8; n++) {
                LotSheet x = Sheets.of("bill 9;slip " + room + ";" + "lot 1 1 1in;".repeat(n));
                int due = 0;
                for (int told = 0; told < n; told += room) {
                    due++;
                }
                check.same("slips for " + n + " entries, room " + room, x.choice(0, 4), due);
                check.same("entries", x.choice(0, 5), n);
                check.same("costs", x.choice(0, 0), 8 * due + 2 * n);
            }
        }
    }

    private void slippedEntries() {
        LotSheet x = Sheets.of("bill 9;slip 4;" + "lot 1 1 1in;".repeat(7));
        figures(x, 0, 2 * 8 + 7 * 2, 0, 0, 0, 2, 7, 0);
        x.carry(0);
        for (int c = 0; c < 128; c++) {
            check.same("entries of " + c, x.choice(c, 5) + x.choice(c, 4), 0);
        }
        x.add(7, 1, 1, 1);
        check.same("entries with one more", x.choice(0, 5), 1);
        check.same("slips with one more", x.choice(0, 4), 1);
        check.same("entries if it is set anew", x.choice(128, 5), 0);
        check.same("slips if it is set anew", x.choice(128, 4), 0);
    }

    private void leastAndGreatestCosts() {
        LotSheet dear = Sheets.of(EIGHT_TO_GO);
        figures(dear, 0, 99 * 16, 0, 0, 0, 8, 8, 24);
        figures(dear, 1, 99 * (246 + 14), 216, 24, 6, 7, 7, 23);
        figures(dear, 255, 99 * 246, 216, 24, 6, 0, 0, 16);
        LotSheet free = Sheets.of(EIGHT_TO_GO.replace("99", "0"));
        figures(free, 0, 0, 0, 0, 0, 8, 8, 24);
        figures(free, 1, 0, 216, 24, 6, 7, 7, 23);
        int[] due = {216, 24, 6, 7, 7};
        for (int which = 0; which < 5; which++) {
            free.setCost(which, 99);
            check.same("the cost " + which + " alone", free.choice(1, 0), 99 * due[which]);
            free.setCost(which, 0);
        }
    }

    private void indexOfPays() {
        for (int lot : beyond(5)) {
            twins.refuse("pays(" + lot + ")", INDEX, Twins::busy, x -> x.pays(lot));
        }
        for (int lot : beyond(24)) {
            check.raises("pays(" + lot + ") of 24", INDEX, () -> Sheets.of(PAGES_24).pays(lot));
        }
        for (int lot : beyond(0)) {
            check.raises("pays(" + lot + ") of none", INDEX, () -> new LotSheet().pays(lot));
        }
    }

    private void paysOfNotDifferent() {
        LotSheet x = Sheets.of("bill 9;lot 1 1 1;lot 1 1 1in;lot 1 1 1in;lot 1 1 1;");
        x.withdraw(2);
        check.same("printed and wanted", x.pays(0), 0);
        check.same("neither of both", x.pays(2), 0);
        check.same("the last one", x.pays(3), 0);
        check.isTrue("the different one", x.pays(1) != 0);
        LotSheet full = Sheets.of(PAGES_24);
        for (int lot = 0; lot < 24; lot++) {
            check.same("pays(" + lot + ")", full.pays(lot), 0);
        }
    }

    private void paysSigns() {
        LotSheet x = Sheets.of("bill 20;lot 1 1 1in;");
        check.same("set anew 16, slip 10", x.pays(0), 6);
        x.setCost(3, 14);
        check.same("16 and 16", x.pays(0), 0);
        x.setCost(3, 99);
        check.same("16 and 101", x.pays(0), -85);
        x.carry(0);
        check.same("16 and 0", x.pays(0), 16);
        LotSheet y = Sheets.of("bill 20;lot 1 1 1in;costs 0 0 0 99 99;");
        check.same("0 and 198", y.pays(0), -198);
    }

    private void paysOf8() {
        LotSheet x = Sheets.of("bill 9;" + "lot 1 1 1in;".repeat(8) + "costs 1 0 0 9 0;slip 8;");
        // With any one of them all eight are set anew at 8; without it there is a slip at 9.
        for (int lot = 0; lot < 8; lot++) {
            check.same("pays(" + lot + ")", x.pays(lot), 8 - 9);
        }
        LotSheet dear = Sheets.of(EIGHT_TO_GO);
        check.same("the first", dear.pays(0), 99 * 246 - 99 * 16);
        check.same("the last", dear.pays(7), 99 * (9 * 17 + 17 + 5 + 14) - 99 * 16);
    }

    // ---- seller, filled, and that questions change nothing

    private void sums() {
        check.test("15: a seller is 0 to 9", this::sellers);
        check.test("15: what is 0 to 2", this::whatOfSeller);
        check.test("15: nothing, and as much as can be", this::leastAndGreatestSeller);
        check.test("17: 0.0 without pages", this::filledWithoutPages);
        check.test("17: the least and the greatest part", this::filledParts);
        check.test("5 to 17: questions change nothing", this::questionsChangeNothing);
    }

    private void sellers() {
        for (int seller : beyond(10)) {
            twins.refuse("seller(" + seller + ", 0)", ARGUMENT, Twins::busy, x -> x.seller(seller, 0));
            twins.refuse("seller(" + seller + ", 3)", ARGUMENT, Twins::busy, x -> x.seller(seller, 3));
            check.raises("seller(" + seller + ", 0) of none", ARGUMENT, () -> new LotSheet().seller(seller, 0));
        }
        StringBuilder text = new StringBuilder("bill 9;");
        for (int s = 0; s <= 9; s++) {
            text.append("lot ").append(s % 9 + 1).append(' ').append(1000 + s).append(' ').append(s).append(';');
        }
        LotSheet x = Sheets.of(text.toString());
        for (int s = 0; s <= 9; s++) {
            check.same("seller(" + s + ", 0)", x.seller(s, 0), 1);
            check.same("seller(" + s + ", 1)", x.seller(s, 1), 1000 + s);
            check.same("seller(" + s + ", 2)", x.seller(s, 2), s % 9 + 1);
        }
    }

    private void whatOfSeller() {
        for (int what : beyond(3)) {
            twins.refuse("seller(0, " + what + ")", ARGUMENT, Twins::busy, x -> x.seller(0, what));
            twins.refuse("seller(9, " + what + ")", ARGUMENT, Twins::busy, x -> x.seller(9, what));
            check.raises("seller(0, " + what + ") of none", ARGUMENT, () -> new LotSheet().seller(0, what));
        }
    }

    private void leastAndGreatestSeller() {
        LotSheet x = Sheets.of(PAGES_24);
        check.same("seller(9, 0)", x.seller(9, 0), 24);
        check.same("seller(9, 1)", x.seller(9, 1), 24 * 9999);
        check.same("seller(9, 2)", x.seller(9, 2), 216);
        for (int what = 0; what < 3; what++) {
            check.same("seller(8, " + what + ")", x.seller(8, what), 0);
            check.same("seller(0, " + what + ")", x.seller(0, what), 0);
            check.same("seller(0, " + what + ") of none", new LotSheet().seller(0, what), 0);
        }
        LotSheet none = Sheets.of(NONE_WANTED);
        check.same("none wanted: lots", none.seller(1, 0), 0);
        check.same("none wanted: estimates", none.seller(1, 1), 0);
        check.same("none wanted: lines", none.seller(1, 2), 4);
        LotSheet wanted = Sheets.of(NONE_PRINTED);
        check.same("none printed: lots", wanted.seller(2, 0), 1);
        check.same("none printed: estimates", wanted.seller(2, 1), 20);
        check.same("none printed: lines", wanted.seller(2, 2), 0);
    }

    private void filledWithoutPages() {
        check.sameDouble("a new object", new LotSheet().filled(), 0.0);
        check.sameDouble("no lots", Sheets.of("bill 40;").filled(), 0.0);
        check.sameDouble("none printed", Sheets.of(NONE_PRINTED).filled(), 0.0);
        LotSheet x = Sheets.of(NONE_WANTED);
        check.sameDouble("7 of 8", x.filled(), 0.875);
        x.carry(3);
        check.sameDouble("none any more", x.filled(), 0.0);
    }

    private void filledParts() {
        check.sameDouble("the least", Sheets.of("bill 40;lot 1 1 1;").filled(), 0.025);
        check.sameDouble("the greatest", Sheets.of(PAGES_24).filled(), 1.0);
        check.sameDouble("a third", Sheets.of("bill 6;lot 2 1 1;").filled(), 1.0 / 3.0);
        check.sameDouble("24 pages", Sheets.of("bill 17;" + "lot 9 1 1;".repeat(24)).filled(), 216.0 / 408.0);
        check.sameDouble("the last page counts whole", Sheets.of("bill 9;lot 9 1 1;lot 1 1 1;").filled(), 10.0 / 18.0);
    }

    private void questionsChangeNothing() {
        LotSheet x = Twins.busy();
        for (int what = 0; what <= 11; what++) {
            x.state(what);
        }
        for (int lot = 0; lot < 5; lot++) {
            for (int what = 0; what <= 8; what++) {
                x.lot(lot, what);
            }
            x.pays(lot);
        }
        for (int c = 0; c < 8; c++) {
            x.choice(c, 0);
        }
        x.page(1, 3);
        x.standing(1, 8);
        x.numbered(1);
        x.different(2);
        x.dearest(2);
        x.seller(9, 2);
        x.through(1);
        x.filled();
        x.best();
        x.errorOffset();
        x.checksum();
        twins.alike("after questions", x, Twins.busy());
    }
}
