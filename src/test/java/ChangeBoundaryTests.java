import java.math.BigInteger;
import java.util.NoSuchElementException;
import java.util.function.Supplier;

/** Promises 18 to 25, with all that is said of changes: a test for each sentence that names a boundary case. */
public final class ChangeBoundaryTests {
    private static final Class<IllegalArgumentException> ARGUMENT = IllegalArgumentException.class;
    private static final Class<IllegalStateException> STATE = IllegalStateException.class;
    private static final Class<IndexOutOfBoundsException> INDEX = IndexOutOfBoundsException.class;
    private static final Class<NoSuchElementException> ELEMENT = NoSuchElementException.class;

    private static final String FULL_AND_8 = "bill 20;" + "lot 1 1 1in;".repeat(8) + "lot 1 1 1;".repeat(16);

    private final Check check = new Check();
    private final Twins twins = new Twins(check);

    public static void main(String[] args) {
        ChangeBoundaryTests t = new ChangeBoundaryTests();
        t.withdrawals();
        t.restorings();
        t.additions();
        t.carryings();
        t.costs();
        t.undoings();
        t.finals();
        t.checksums();
        t.check.end();
    }

    /** For what has the values 0 to n - 1: the next ones beyond them and those farthest off. */
    private static int[] beyond(int n) {
        return new int[] {-1, n, -2, n + 1, n + 256, Integer.MIN_VALUE, Integer.MAX_VALUE};
    }

    private static Supplier<LotSheet> of(String text) {
        return () -> Sheets.of(text);
    }

    private void facts(LotSheet x, int lot, int... due) {
        for (int i = 0; i < due.length; i++) {
            check.same("lot(" + lot + ", " + i + ")", x.lot(lot, i), due[i]);
        }
    }

    /** 8 different lots, and lot 10, which is neither printed nor wanted. */
    private static LotSheet eightAndOneAway() {
        LotSheet x = Twins.manyDifferent();
        x.withdraw(1);
        x.add(10, 5, 5, 5);
        x.withdraw(10);
        x.restore(1);
        return x;
    }

    // ---- withdraw

    private void withdrawals() {
        check.test("18: a lot is an index of a lot", this::indexOfWithdraw);
        check.test("18: refused if the lot is not wanted", this::withdrawNotWanted);
        check.test("18: refused if there would be more than 8 different lots", this::withdrawNinth);
        check.test("18: no such lot comes ahead of the state", this::withdrawIndexFirst);
        check.test("18: returns the different lots, 0 to 8", this::withdrawReturns);
        check.test("18: the first and the last of 24 lots", this::withdrawEnds);
    }

    private void indexOfWithdraw() {
        for (int lot : beyond(5)) {
            twins.refuse("withdraw(" + lot + ")", INDEX, Twins::busy, x -> x.withdraw(lot));
        }
        for (int lot : beyond(24)) {
            twins.refuse("withdraw(" + lot + ") of 24", INDEX, Twins::manyLots, x -> x.withdraw(lot));
        }
        for (int lot : beyond(0)) {
            twins.refuse("withdraw(" + lot + ") of none", INDEX, LotSheet::new, x -> x.withdraw(lot));
        }
    }

    private void withdrawNotWanted() {
        twins.refuse("withdraw of a slipped lot that is to go", STATE, Twins::busy, x -> x.withdraw(1));
        twins.refuse("withdraw of a withdrawn lot", STATE, Twins::busy, x -> x.withdraw(0));
        twins.refuse("withdraw of a lot that is out", STATE, of("bill 9;lot 1 1 1out;"), x -> x.withdraw(0));
        twins.refuse("withdraw of a lot that is neither", STATE, () -> {
            LotSheet x = Sheets.of("bill 9;lot 1 1 1in;");
            x.withdraw(0);
            return x;
        }, x -> x.withdraw(0));
        twins.refuse("withdraw of a lot that is out, of 8", STATE, Twins::manyDifferent, x -> x.withdraw(0));
        twins.refuse("withdraw of a lot that is neither, of 8", STATE,
                ChangeBoundaryTests::eightAndOneAway, x -> x.withdraw(10));
    }

    private void withdrawNinth() {
        twins.refuse("withdraw(8)", STATE, Twins::manyDifferent, x -> x.withdraw(8));
        twins.refuse("withdraw(9)", STATE, Twins::manyDifferent, x -> x.withdraw(9));
        twins.refuse("withdraw(23) of a full bill", STATE, of(FULL_AND_8), x -> x.withdraw(23));
        LotSheet x = Twins.manyDifferent();
        check.same("a lot that was to come is not different then", x.withdraw(1), 7);
        check.same("there is room for the 8th", x.withdraw(8), 8);
        check.raises("but not for the 9th", STATE, () -> x.withdraw(9));
        LotSheet slipped = Twins.manyDifferent();
        slipped.carry(0);
        check.raises("slipped lots are different too", STATE, () -> slipped.withdraw(8));
        slipped.carry(1);
        check.same("until they are set anew", slipped.withdraw(8), 8);
    }

    private void withdrawIndexFirst() {
        twins.refuse("withdraw(10), 8 different", INDEX, Twins::manyDifferent, x -> x.withdraw(10));
        twins.refuse("withdraw(-1), 8 different", INDEX, Twins::manyDifferent, x -> x.withdraw(-1));
        twins.refuse("withdraw(24), full", INDEX, of(FULL_AND_8), x -> x.withdraw(24));
        twins.refuse("withdraw(1), the only lot is out", INDEX, of("bill 9;lot 1 1 1out;"), x -> x.withdraw(1));
    }

    private void withdrawReturns() {
        LotSheet x = Twins.manyLots();
        for (int n = 1; n <= 8; n++) {
            check.same("withdraw", x.withdraw(n + 3), n);
        }
        check.raises("the 9th", STATE, () -> x.withdraw(0));
        LotSheet y = Sheets.of("bill 20;" + "lot 1 1 1in;".repeat(8));
        for (int n = 7; n >= 0; n--) {
            check.same("withdraw", y.withdraw(n), n);
            facts(y, n, 1, 1, 1, 0, 0, 0, 0, -1, -1);
        }
        check.same("the lots are still there", y.state(1), 8);
    }

    private void withdrawEnds() {
        LotSheet x = Twins.manyLots();
        check.same("the first", x.withdraw(0), 1);
        check.same("the last", x.withdraw(23), 2);
        facts(x, 0, 9, 9, 9, 1, 0, 0, 1, 0, 0);
        facts(x, 23, 9, 9, 9, 1, 0, 0, 24, 11, 9);
        check.same("wanted ones", x.state(3), 22);
    }

    // ---- restore

    private void restorings() {
        check.test("19: a lot is an index of a lot", this::indexOfRestore);
        check.test("19: refused if the lot is wanted", this::restoreWanted);
        check.test("19: refused if there would be more than 8 different lots", this::restoreNinth);
        check.test("19: no such lot comes ahead of the state", this::restoreIndexFirst);
        check.test("19: returns the different lots, 0 to 8", this::restoreReturns);
        check.test("19: the first and the last of 24 lots", this::restoreEnds);
    }

    private void indexOfRestore() {
        for (int lot : beyond(5)) {
            twins.refuse("restore(" + lot + ")", INDEX, Twins::busy, x -> x.restore(lot));
        }
        for (int lot : beyond(24)) {
            twins.refuse("restore(" + lot + ") of 24", INDEX, Twins::manyLots, x -> x.restore(lot));
        }
        for (int lot : beyond(0)) {
            twins.refuse("restore(" + lot + ") of none", INDEX, LotSheet::new, x -> x.restore(lot));
        }
    }

    private void restoreWanted() {
        twins.refuse("restore of a slipped lot that is to come", STATE, Twins::busy, x -> x.restore(2));
        twins.refuse("restore of a printed and wanted lot", STATE, Twins::busy, x -> x.restore(3));
        twins.refuse("restore of a lot that is in", STATE, Twins::manyDifferent, x -> x.restore(1));
        twins.refuse("restore of a wanted lot, 8 different", STATE, Twins::manyDifferent, x -> x.restore(8));
    }

    private void restoreNinth() {
        twins.refuse("restore(10)", STATE, ChangeBoundaryTests::eightAndOneAway, x -> x.restore(10));
        LotSheet x = eightAndOneAway();
        check.same("a lot that was to go is not different then", x.restore(0), 7);
        check.same("there is room for the 8th", x.restore(10), 8);
        check.raises("but not for the 9th", STATE, () -> x.withdraw(0));
    }

    private void restoreIndexFirst() {
        twins.refuse("restore(11), 8 different", INDEX, ChangeBoundaryTests::eightAndOneAway, x -> x.restore(11));
        twins.refuse("restore(-1), 8 different", INDEX, ChangeBoundaryTests::eightAndOneAway, x -> x.restore(-1));
        twins.refuse("restore(24), full", INDEX, of(FULL_AND_8), x -> x.restore(24));
    }

    private void restoreReturns() {
        LotSheet x = Sheets.of("bill 20;" + "lot 1 1 1out;".repeat(8));
        for (int n = 7; n >= 0; n--) {
            check.same("restore", x.restore(n), n);
            facts(x, n, 1, 1, 1, 1, 1, 0, n + 1, 0, n);
        }
        LotSheet y = Sheets.of("bill 20;" + "lot 1 1 1in;".repeat(8));
        for (int n = 0; n < 8; n++) {
            y.withdraw(n);
        }
        for (int n = 0; n < 8; n++) {
            check.same("restore", y.restore(n), n + 1);
        }
    }

    private void restoreEnds() {
        LotSheet x = Twins.manyLots();
        x.withdraw(0);
        x.withdraw(23);
        check.same("the last", x.restore(23), 1);
        check.same("the first", x.restore(0), 0);
        twins.alike("all is as it was", afterNineCosts(x), afterNineCosts(Twins.manyLots()));
    }

    /** All earlier changes are final then. */
    private static LotSheet afterNineCosts(LotSheet x) {
        for (int n = 0; n < 9; n++) {
            x.setCost(0, n);
        }
        return x;
    }

    // ---- add

    private void additions() {
        check.test("20: at is 0 to the number of lots", this::atOfAdd);
        check.test("20: lines are 1 to 9, not more than the height", this::linesOfAdd);
        check.test("20: the estimate is 0 to 9999", this::estimateOfAdd);
        check.test("20: the seller is 0 to 9", this::sellerOfAdd);
        check.test("20: refused if there are 24 lots", this::add25th);
        check.test("20: refused if there are 8 different ones", this::addNinth);
        check.test("20: a wrong parameter comes ahead of the state", this::addArgumentFirst);
        check.test("20: returns the lots, 1 to 24", this::addReturns);
        check.test("20: lots behind it come one index further", this::addMoves);
    }

    private void atOfAdd() {
        for (int at : beyond(6)) {
            twins.refuse("add at " + at, ARGUMENT, Twins::busy, x -> x.add(at, 1, 1, 1));
        }
        for (int at : beyond(1)) {
            twins.refuse("add at " + at + " of none", ARGUMENT, LotSheet::new, x -> x.add(at, 1, 1, 1));
        }
        for (int at : beyond(24)) {
            twins.refuse("add at " + at + " of 23", ARGUMENT, of("bill 9;" + "lot 1 1 1;".repeat(23)),
                    x -> x.add(at, 1, 1, 1));
        }
        check.same("at 0 of none", new LotSheet().add(0, 1, 1, 1), 1);
        check.same("at 0 of 5", Twins.busy().add(0, 1, 1, 1), 6);
        check.same("at 5 of 5", Twins.busy().add(5, 1, 1, 1), 6);
    }

    private void linesOfAdd() {
        int[][] heightAndMost = {{4, 4}, {8, 8}, {9, 9}, {10, 9}, {40, 9}};
        for (int[] h : heightAndMost) {
            Supplier<LotSheet> made = of("bill " + h[0] + ";");
            for (int lines = 1; lines <= h[1]; lines++) {
                LotSheet x = made.get();
                check.same("lines " + lines, x.add(0, lines, 1, 1), 1);
                check.same("lot(0, 0)", x.lot(0, 0), lines);
            }
            int[] wrong = {0, h[1] + 1, -1, h[1] + 256, Integer.MIN_VALUE, Integer.MAX_VALUE};
            for (int lines : wrong) {
                twins.refuse("lines " + lines + " of " + h[0], ARGUMENT, made, x -> x.add(0, lines, 1, 1));
            }
        }
        check.raises("10 lines in a new object", ARGUMENT, () -> new LotSheet().add(0, 10, 1, 1));
        LotSheet x = Sheets.of("bill 4;");
        Sheets.load(x, "bill 5;");
        check.same("the height of the latest bill", x.add(0, 5, 1, 1), 1);
        x.undo();
        x.undo();
        check.raises("the height after undo", ARGUMENT, () -> x.add(0, 5, 1, 1));
    }

    private void estimateOfAdd() {
        for (int estimate : beyond(10000)) {
            twins.refuse("estimate " + estimate, ARGUMENT, Twins::busy, x -> x.add(0, 1, estimate, 1));
        }
        for (int estimate : new int[] {0, 1, 9998, 9999}) {
            LotSheet x = Twins.busy();
            check.same("estimate " + estimate, x.add(5, 1, estimate, 1), 6);
            check.same("lot(5, 1)", x.lot(5, 1), estimate);
        }
    }

    private void sellerOfAdd() {
        for (int seller : beyond(10)) {
            twins.refuse("seller " + seller, ARGUMENT, Twins::busy, x -> x.add(0, 1, 1, seller));
        }
        for (int seller = 0; seller <= 9; seller++) {
            LotSheet x = Twins.busy();
            check.same("seller " + seller, x.add(5, 1, 1, seller), 6);
            check.same("lot(5, 2)", x.lot(5, 2), seller);
        }
    }

    private void add25th() {
        for (int at : new int[] {0, 12, 24}) {
            twins.refuse("add at " + at, STATE, Twins::manyLots, x -> x.add(at, 1, 1, 1));
            twins.refuse("add at " + at + ", 8 different too", STATE, of(FULL_AND_8), x -> x.add(at, 1, 1, 1));
        }
        LotSheet x = Sheets.of("bill 20;" + "lot 1 1 1;".repeat(23));
        check.same("the 24th", x.add(23, 1, 1, 1), 24);
        check.raises("the 25th", STATE, () -> x.add(24, 1, 1, 1));
        x.withdraw(23);
        check.raises("a withdrawn lot is a lot too", STATE, () -> x.add(24, 1, 1, 1));
        x.undo();
        x.undo();
        check.same("the 24th after undo", x.add(0, 1, 1, 1), 24);
    }

    private void addNinth() {
        for (int at : new int[] {0, 5, 10}) {
            twins.refuse("add at " + at, STATE, Twins::manyDifferent, x -> x.add(at, 1, 1, 1));
        }
        LotSheet x = Twins.manyDifferent();
        x.carry(0);
        check.raises("slipped lots are different too", STATE, () -> x.add(0, 1, 1, 1));
        x.carry(128);
        check.same("the 8th", x.add(0, 1, 1, 1), 11);
        check.same("different ones", x.state(4), 8);
        check.raises("the 9th", STATE, () -> x.add(0, 1, 1, 1));
    }

    private void addArgumentFirst() {
        int[][] wrong = {{-1, 1, 1, 1}, {25, 1, 1, 1}, {0, 0, 1, 1}, {0, 10, 1, 1}, {0, 1, -1, 1}, {0, 1, 10000, 1},
            {0, 1, 1, -1}, {0, 1, 1, 10}, {25, 10, 10000, 10}, {-1, -1, -1, -1}};
        for (int[] w : wrong) {
            String what = "add(" + w[0] + ", " + w[1] + ", " + w[2] + ", " + w[3] + ")";
            twins.refuse(what, ARGUMENT, Twins::busy, x -> x.add(w[0], w[1], w[2], w[3]));
            twins.refuse(what + " of 24", ARGUMENT, Twins::manyLots, x -> x.add(w[0], w[1], w[2], w[3]));
            twins.refuse(what + ", 8 different", ARGUMENT, Twins::manyDifferent, x -> x.add(w[0], w[1], w[2], w[3]));
        }
        check.raises("at 11 of 10, 8 different", ARGUMENT, () -> Twins.manyDifferent().add(11, 1, 1, 1));
        check.raises("10 lines of a lower bill, 8 different", ARGUMENT,
                () -> Sheets.of("bill 4;" + "lot 1 1 1in;".repeat(8)).add(0, 5, 1, 1));
    }

    private void addReturns() {
        LotSheet x = new LotSheet();
        for (int n = 1; n <= 24; n++) {
            check.same("add", x.add(n / 2, 1, n, 1), n);
            x.carry(1);
        }
        check.raises("the 25th", STATE, () -> x.add(0, 1, 1, 1));
        check.same("printed ones", x.state(2), 24);
    }

    private void addMoves() {
        StringBuilder text = new StringBuilder("bill 9;lot 2 100 2out;lot 3 101 3in;");
        for (int lot = 2; lot < 23; lot++) {
            text.append("lot 1 ").append(100 + lot).append(" 4;");
        }
        for (int at = 0; at <= 23; at++) {
            LotSheet x = Sheets.of(text.toString());
            x.carry(0);
            x.add(at, 5, 7, 8);
            facts(x, at, 5, 7, 8, 0, 1, 0, 0, -1, -1);
            for (int lot = 0; lot < 23; lot++) {
                check.same("the estimate of lot " + lot, x.lot(lot < at ? lot : lot + 1, 1), 100 + lot);
            }
            facts(x, at > 0 ? 0 : 1, 2, 100, 2, 1, 0, 1, 1, 0, 0);
            facts(x, at > 1 ? 1 : 2, 3, 101, 3, 0, 1, 1, 0, -1, -1);
            facts(x, at > 2 ? 2 : 3, 1, 102, 4, 1, 1, 0, 2, 0, 2);
        }
    }

    // ---- carry, press

    private void carryings() {
        check.test("21: a choice is 0 to 2^n - 1", this::choicesOfCarry);
        check.test("21: the empty choice", this::carryNothing);
        check.test("21: the greatest choice, 8 lots set anew", this::carryAll);
        check.test("21: returns its costs, and adds them to the account", this::carryCosts);
        check.test("21: no page is left, and the first page comes", this::carryPages);
        check.test("22: 0 if no lot is different", this::pressNothing);
        check.test("22: the best choice of several that cost the same", this::pressOfSeveral);
        check.test("22: 8 different lots", this::pressEight);
    }

    private void choicesOfCarry() {
        for (int n = 0; n <= 8; n++) {
            String text = "bill 9;lot 2 2 2;" + "lot 1 1 1in;".repeat(n);
            for (int choice : beyond(1 << n)) {
                twins.refuse("carry(" + choice + ") of " + n, ARGUMENT, of(text), x -> x.carry(choice));
            }
            LotSheet x = Sheets.of(text);
            x.carry((1 << n) - 1);
            check.same("different ones then", x.state(4), 0);
            check.raises("carry(1) then", ARGUMENT, () -> x.carry(1));
        }
        for (int choice : beyond(8)) {
            twins.refuse("carry(" + choice + ")", ARGUMENT, Twins::busy, x -> x.carry(choice));
        }
        for (int choice : beyond(1)) {
            twins.refuse("carry(" + choice + ") of none", ARGUMENT, LotSheet::new, x -> x.carry(choice));
        }
    }

    private void carryNothing() {
        LotSheet x = new LotSheet();
        check.same("carry(0) of a new object", x.carry(0), 0);
        check.same("undo()", x.undo(), 0);
        check.same("carry(0), none different", Twins.manyLots().carry(0), 0);
        LotSheet y = Twins.manyDifferent();
        check.same("carry(0) of 8", y.carry(0), 3 * 8 + 8 * 2);
        check.same("slipped ones", y.state(5), 8);
        check.same("printed ones", y.state(2), 6);
        check.same("carry(0) again", y.carry(0), 0);
        check.same("the account", y.state(8), 40);
    }

    private void carryAll() {
        LotSheet x = Twins.manyDifferent();
        x.carry(255);
        check.same("different ones", x.state(4), 0);
        check.same("slipped ones", x.state(5), 0);
        check.same("printed ones", x.state(2), 6);
        for (int lot = 0; lot < 10; lot++) {
            boolean gone = lot < 8 && lot % 2 == 0;
            check.same("lot " + lot + " is printed", x.lot(lot, 3), gone ? 0 : 1);
            check.same("lot " + lot + " is wanted", x.lot(lot, 4), gone ? 0 : 1);
        }
        LotSheet slipped = Twins.manyDifferent();
        slipped.carry(0);
        slipped.carry(255);
        check.same("none is slipped any more", slipped.state(5), 0);
    }

    private void carryCosts() {
        int account = 0;
        for (int choice = 0; choice < 256; choice += 51) {
            LotSheet x = Twins.manyDifferent();
            int costs = x.choice(choice, 0);
            check.same("carry(" + choice + ")", x.carry(choice), costs);
            check.same("the account", x.state(8), costs);
            account += costs;
        }
        check.isTrue("there were costs", account > 0);
        LotSheet x = Sheets.of("bill 9;lot 1 1 1in;");
        check.same("the first", x.carry(0), 10);
        check.same("a lot that is slipped", x.carry(1), 16);
        check.same("the account", x.state(8), 26);
    }

    private void carryPages() {
        LotSheet x = Sheets.of("bill 4;lot 4 1 1out;lot 4 1 1out;");
        check.same("both go", x.carry(3), 8 + 10 + 10);
        check.same("pages", x.state(6), 0);
        check.raises("page(0, 0)", INDEX, () -> x.page(0, 0));
        check.raises("numbered(1)", ELEMENT, () -> x.numbered(1));
        check.sameDouble("filled()", x.filled(), 0.0);
        x.restore(1);
        check.same("one comes", x.carry(1), 4 + 5 + 10);
        check.same("page(0, 0)", x.page(0, 0), 1);
        check.same("page(0, 1)", x.page(0, 1), 1);
        check.same("numbered(1)", x.numbered(1), 1);
        check.sameDouble("filled()", x.filled(), 1.0);
    }

    private void pressNothing() {
        LotSheet x = new LotSheet();
        check.same("a new object", x.press(), 0);
        check.same("undo()", x.undo(), 0);
        check.same("none different", Twins.manyLots().press(), 0);
        LotSheet y = Sheets.of("bill 9;lot 1 1 1in;");
        check.same("a slip", y.press(), 10);
        check.same("nothing more to tell", y.press(), 0);
        check.same("the account", y.state(8), 10);
    }

    private void pressOfSeveral() {
        // Each choice costs 16: the smallest one sets nothing anew.
        LotSheet x = Sheets.of("bill 4;lot 4 1 1in;lot 4 1 1in;costs 0 8 0 8 0;slip 1;");
        check.same("press()", x.press(), 16);
        check.same("slipped", x.state(5), 2);
        check.same("printed", x.state(2), 0);
        LotSheet y = Sheets.of("bill 4;lot 4 1 1in;lot 4 1 1in;costs 0 8 0 8 1;slip 1;");
        check.same("the choice 3 alone", y.press(), 16);
        check.same("printed", y.state(2), 2);
    }

    private void pressEight() {
        LotSheet x = Twins.manyDifferent();
        x.setCost(3, 99);
        check.same("best()", x.best(), 255);
        int costs = x.choice(255, 0);
        check.same("press()", x.press(), costs);
        check.same("different ones", x.state(4), 0);
        check.same("the account", x.state(8), costs);
    }

    // ---- setCost

    private void costs() {
        check.test("23: which is 0 to 4", this::whichCost);
        check.test("23: the cost is 0 to 99", this::costOfSetCost);
        check.test("23: both are wrong", () -> {
            twins.refuse("setCost(5, 100)", ARGUMENT, Twins::busy, x -> x.setCost(5, 100));
            twins.refuse("setCost(-1, -1)", ARGUMENT, Twins::busy, x -> x.setCost(-1, -1));
        });
        check.test("23: returns the previous cost", this::previousCost);
    }

    private void whichCost() {
        for (int which : beyond(5)) {
            twins.refuse("setCost(" + which + ", 1)", ARGUMENT, Twins::busy, x -> x.setCost(which, 1));
            twins.refuse("setCost(" + which + ", 1) of a new object", ARGUMENT, LotSheet::new, x -> x.setCost(which, 1));
        }
        int[] due = {2, 3, 5, 7, 13};
        for (int which = 0; which <= 4; which++) {
            check.same("setCost(" + which + ", 1)", Twins.busy().setCost(which, 1), due[which]);
        }
    }

    private void costOfSetCost() {
        for (int which = 0; which <= 4; which++) {
            int w = which;
            for (int cost : beyond(100)) {
                twins.refuse("setCost(" + w + ", " + cost + ")", ARGUMENT, Twins::busy, x -> x.setCost(w, cost));
            }
            LotSheet x = new LotSheet();
            x.setCost(w, 0);
            check.same("0 is taken", x.setCost(w, 99), 0);
            check.same("99 is taken", x.setCost(w, 1), 99);
        }
    }

    private void previousCost() {
        LotSheet x = new LotSheet();
        x.setCost(2, 98);
        int[] due = {1, 5, 98, 8, 2};
        for (int which = 0; which <= 4; which++) {
            check.same("setCost", x.setCost(which, which), due[which]);
        }
        for (int which = 0; which <= 4; which++) {
            check.same("setCost again", x.setCost(which, which), which);
        }
    }

    // ---- undo

    private void undoings() {
        check.test("24: -1 if there was none to undo, and nothing changes then", this::undoNone);
        check.test("24: the latest 8 changes, the latest one first", this::undoEight);
        check.test("24: back to the time before the first load", this::undoToTheStart);
        check.test("24: a change is one also if all data stay as they were", this::emptyChanges);
        check.test("24: a load with an error is no change", this::failedLoadIsNoChange);
        check.test("24: refused calls are no changes", this::refusedCallsAreNone);
        check.test("24: undo of each change brings back all data", this::undoBringsBack);
        check.test("24: undo of load brings back all data", this::undoOfLoad);
        check.test("24: undo of a full bill and of a last lot leaves nothing behind", this::undoOfFull);
        check.test("24: the input buffer is not affected, full or empty", this::undoAndBuffer);
    }

    private void undoNone() {
        LotSheet x = new LotSheet();
        check.same("a new object", x.undo(), -1);
        check.same("once more", x.undo(), -1);
        twins.alike("a new object after undo", x, new LotSheet());
        LotSheet y = Twins.busy();
        for (int left = 5; left >= 0; left--) {
            check.same("undo()", y.undo(), left);
        }
        long sum = y.checksum();
        check.same("none to undo", y.undo(), -1);
        check.same("none to undo, again", y.undo(), -1);
        check.same("nothing changes", y.checksum(), sum);
        check.same("a change after it", y.setCost(0, 3), 1);
        check.same("can be undone", y.undo(), 0);
        check.same("nothing more", y.undo(), -1);
        check.same("as it was", y.setCost(0, 3), 1);
    }

    private void undoEight() {
        LotSheet x = new LotSheet();
        for (int n = 1; n <= 8; n++) {
            check.same("add", x.add(0, 1, 100 + n, 1), n);
        }
        for (int n = 7; n >= 0; n--) {
            check.same("undo()", x.undo(), n);
            check.same("the lots that are left", x.state(1), n);
            if (n > 0) {
                check.same("the first of them", x.lot(0, 1), 100 + n);
            }
        }
        check.same("undo()", x.undo(), -1);
    }

    private void undoToTheStart() {
        LotSheet x = new LotSheet();
        Sheets.load(x, "bill 4;lot 4 1 1;lot 4 1 1out;slip 9;costs 0 0 0 0 0;");
        check.same("undo()", x.undo(), 0);
        check.same("the height", x.state(0), 20);
        check.same("lots", x.state(1), 0);
        check.same("pages", x.state(6), 0);
        check.same("room", x.state(11), 3);
        check.raises("lot(0, 0)", INDEX, () -> x.lot(0, 0));
        check.raises("different(0)", ELEMENT, () -> x.different(0));
        twins.alike("the object", x, new LotSheet());
    }

    private void emptyChanges() {
        LotSheet x = Sheets.of("bill 9;");
        check.same("undo of load", Sheets.of("bill 9;").undo(), 0);
        Sheets.load(x, "bill 9;");
        check.same("after a load of the same text", x.undo(), 1);
        x.carry(0);
        check.same("after carry(0)", x.undo(), 1);
        x.press();
        check.same("after press()", x.undo(), 1);
        x.setCost(0, 1);
        check.same("after setCost of the same cost", x.undo(), 1);
        x.carry(0);
        x.press();
        x.setCost(0, 1);
        Sheets.load(x, "bill 9;");
        check.same("after all of them", x.undo(), 4);
        for (int n = 0; n < 8; n++) {
            x.press();
        }
        for (int n = 7; n >= 0; n--) {
            check.same("undo of press", x.undo(), n);
        }
        check.same("undo()", x.undo(), -1);
    }

    private void failedLoadIsNoChange() {
        LotSheet x = new LotSheet();
        for (int n = 1; n <= 8; n++) {
            x.setCost(0, 20 + n);
        }
        for (int n = 0; n < 9; n++) {
            Sheets.load(x, "bill 3;");
        }
        for (int n = 7; n >= 0; n--) {
            check.same("undo()", x.undo(), n);
        }
        check.same("the first cost", x.setCost(0, 0), 1);
    }

    private void refusedCallsAreNone() {
        LotSheet x = Twins.manyDifferent();
        for (int n = 1; n <= 8; n++) {
            x.setCost(0, 20 + n);
        }
        for (int n = 0; n < 9; n++) {
            check.raises("load", ARGUMENT, () -> x.load(1));
            check.raises("withdraw, no such lot", INDEX, () -> x.withdraw(10));
            check.raises("withdraw, not wanted", STATE, () -> x.withdraw(0));
            check.raises("withdraw, the 9th", STATE, () -> x.withdraw(8));
            check.raises("restore, no such lot", INDEX, () -> x.restore(10));
            check.raises("restore, wanted", STATE, () -> x.restore(8));
            check.raises("add, no such place", ARGUMENT, () -> x.add(11, 1, 1, 1));
            check.raises("add, the 9th", STATE, () -> x.add(0, 1, 1, 1));
            check.raises("carry", ARGUMENT, () -> x.carry(256));
            check.raises("setCost", ARGUMENT, () -> x.setCost(5, 0));
            x.append(0, 0, 0, 0, 0);
            check.same("load with an error", x.load(20), LotSheet.SYNTAX_ERROR);
        }
        for (int n = 7; n >= 0; n--) {
            check.same("undo()", x.undo(), n);
        }
        check.same("the first cost", x.setCost(0, 0), 1);
        check.same("different ones", x.state(4), 8);
    }

    private void undone(String what, Supplier<LotSheet> made, Twins.Call call) throws Exception {
        LotSheet x = made.get();
        LotSheet due = made.get();
        // The oldest change becomes final in both objects.
        call.on(x);
        due.setCost(0, 0);
        int left = due.undo();
        check.same("undo of " + what, x.undo(), left);
        twins.alike("after undo of " + what, x, due);
    }

    private void undoBringsBack() throws Exception {
        undone("withdraw of a slipped lot", Twins::busy, x -> x.withdraw(2));
        undone("withdraw of a printed lot", Twins::busy, x -> x.withdraw(4));
        undone("restore of a slipped lot", Twins::busy, x -> x.restore(1));
        undone("restore of a withdrawn lot", Twins::busy, x -> x.restore(0));
        undone("add at 0", Twins::busy, x -> x.add(0, 9, 9999, 9));
        undone("add at the end", Twins::busy, x -> x.add(5, 9, 9999, 9));
        undone("add to a new object", LotSheet::new, x -> x.add(0, 9, 9999, 9));
        undone("the 24th lot", of("bill 9;" + "lot 1 1 1;".repeat(23)), x -> x.add(3, 9, 9999, 9));
        undone("carry(0)", Twins::busy, x -> x.carry(0));
        undone("carry(7)", Twins::busy, x -> x.carry(7));
        undone("carry(255)", Twins::manyDifferent, x -> x.carry(255));
        undone("press", Twins::busy, x -> x.press());
        for (int which = 0; which < 5; which++) {
            int w = which;
            undone("setCost(" + w + ", 99)", Twins::busy, x -> x.setCost(w, 99));
        }
    }

    private void undoOfLoad() {
        LotSheet x = Twins.busy();
        check.same("load", x.load(17), 1);
        check.same("undo()", x.undo(), 6);
        LotSheet due = Twins.busy();
        // Buffer and error offset are not brought back: both objects end with the same ones.
        x.load(0);
        due.load(0);
        twins.alike("after undo of load", x, due);
    }

    private void undoOfFull() {
        String[] small = {"bill 4;", "bill 5;lot 2 3 1;lot 1 4 1in;lot 3 5 1out;lot 1 6 2in;", "bill 9;lot 1 1 1;"};
        for (String s : small) {
            LotSheet x = Sheets.of(s);
            Sheets.load(x, "bill 9;" + "lot 9 9999 9;".repeat(24));
            x.undo();
            twins.answerAlike("after undo of a full bill: " + s, x, Sheets.of(s));
            LotSheet y = Sheets.of(s);
            y.add(y.state(1), 4, 9, 1);
            y.carry((1 << y.state(4)) - 1);
            y.undo();
            y.undo();
            twins.answerAlike("after undo of a last lot: " + s, y, Sheets.of(s));
        }
    }

    private void undoAndBuffer() {
        LotSheet x = Sheets.of("bill 9;");
        String full = "bill 8;" + " ".repeat(493);
        Sheets.append(x, full);
        check.same("undo()", x.undo(), 0);
        check.same("a full buffer", x.append(0, 0, 0, 0, 0), -1);
        check.same("its text", x.load(500), 0);
        check.same("its height", x.state(0), 8);
        check.same("undo of that load", x.undo(), 0);
        check.raises("an empty buffer", ARGUMENT, () -> x.load(1));
        check.same("append", x.append(0, 0, 0, 0, 0), 20);
    }

    // ---- what is final

    private void finals() {
        check.test("24: a change is final behind 8 later ones", this::finalBehindEight);
        check.test("24: it stays final when later ones are undone", this::staysFinal);
        check.test("24: an undone change is none of the 8 later ones", this::undoneIsNone);
        check.test("24: many changes and undos in turn", this::manyInTurn);
        check.test("24: bills of 24 lots, 8 of them", this::eightFullBills);
        check.test("an object is good for 512 calls", this::calls512);
    }

    private void finalBehindEight() {
        for (int changes = 7; changes <= 30; changes++) {
            LotSheet x = new LotSheet();
            for (int n = 1; n <= changes; n++) {
                x.setCost(4, 40 + n);
            }
            int kept = changes < 8 ? changes : 8;
            for (int left = kept - 1; left >= 0; left--) {
                check.same("undo() of " + changes, x.undo(), left);
            }
            check.same("undo() then", x.undo(), -1);
            check.same("the cost that is final", x.setCost(4, 0), changes <= 8 ? 2 : 40 + changes - 8);
        }
    }

    private void staysFinal() {
        LotSheet x = new LotSheet();
        for (int n = 1; n <= 9; n++) {
            x.setCost(4, 40 + n);
        }
        for (int n = 0; n < 4; n++) {
            x.undo();
        }
        x.setCost(4, 60);
        for (int left = 4; left >= 0; left--) {
            check.same("undo()", x.undo(), left);
        }
        check.same("the first change is final", x.undo(), -1);
        check.same("its cost", x.setCost(4, 0), 41);
    }

    private void undoneIsNone() {
        LotSheet x = new LotSheet();
        x.setCost(4, 41);
        for (int n = 0; n < 20; n++) {
            x.setCost(4, 50 + n);
            check.same("undo()", x.undo(), 1);
        }
        check.same("the first change can be undone", x.undo(), 0);
        check.same("the cost before it", x.setCost(4, 41), 2);
        for (int n = 2; n <= 8; n++) {
            x.setCost(4, 40 + n);
        }
        check.same("the 8th is undone", x.undo(), 7);
        x.setCost(4, 60);
        for (int left = 7; left >= 0; left--) {
            check.same("undo()", x.undo(), left);
        }
        check.same("the cost before all", x.setCost(4, 0), 2);
    }

    private void manyInTurn() {
        LotSheet x = new LotSheet();
        int[] costs = new int[40];
        costs[0] = 2;
        int made = 0;
        int kept = 0;
        for (int turn = 1; turn <= 12; turn++) {
            for (int n = 0; n < 3; n++) {
                made++;
                costs[made] = 3 * turn + n;
                check.same("setCost", x.setCost(4, costs[made]), costs[made - 1]);
                kept = kept < 8 ? kept + 1 : 8;
            }
            made--;
            kept--;
            check.same("undo() of turn " + turn, x.undo(), kept);
        }
        for (int left = kept - 1; left >= 0; left--) {
            check.same("undo() at the end", x.undo(), left);
            made--;
        }
        check.same("undo() then", x.undo(), -1);
        check.same("the cost then", x.setCost(4, 0), costs[made]);
    }

    private void eightFullBills() {
        LotSheet x = new LotSheet();
        for (int n = 1; n <= 9; n++) {
            Sheets.load(x, "bill " + (10 + n) + ";" + ("lot " + n + " " + n + " " + n + ";").repeat(24));
        }
        for (int n = 8; n >= 1; n--) {
            check.same("undo()", x.undo(), n - 1);
            check.same("the height", x.state(0), 10 + n);
            facts(x, 0, n, n, n, 1, 1, 0, 1);
            facts(x, 23, n, n, n, 1, 1, 0, 24);
        }
        check.same("undo()", x.undo(), -1);
        check.same("the first bill is final", x.state(0), 11);
    }

    private void calls512() {
        LotSheet x = new LotSheet();
        check.same("the first call", x.add(0, 1, 1, 1), 1);
        check.same("the second call", x.carry(1), 16);
        for (int n = 2; n < 510; n += 2) {
            check.same("the different lots of call " + n, x.withdraw(0), 1);
            check.same("the different lots of call " + (n + 1), x.restore(0), 0);
        }
        check.same("the 511th call", x.undo(), 7);
        check.same("the 512th call", x.checksum(), sumOf(20, 1, 1, 0, 1, 0, 1, 1, 16, 0, 0, 3,
                1, 1, 1, 1, 0, 0, 1, 0, 0, 0, 10, 0, 0, 0, 1, 1, 1));
    }

    // ---- checksum

    private void checksums() {
        check.test("25: without lots", this::sumWithoutLots);
        check.test("25: wraps around on overflow of a long", this::sumWrapsAround);
        check.test("25: numbers below 0", this::sumOfNegative);
        check.test("25: the best choice of 8 lots, and none", this::sumOfBest);
    }

    /** Over whole numbers without bounds, of which the lowest 64 bits are taken at the end. */
    private static long sumOf(int... numbers) {
        BigInteger sum = BigInteger.ZERO;
        for (int n : numbers) {
            sum = sum.multiply(BigInteger.valueOf(31)).add(BigInteger.valueOf(n));
        }
        return sum.longValue();
    }

    private static long sumOfAnswers(LotSheet x) {
        int lots = x.state(1);
        int[] numbers = new int[12 + 9 * lots + 1 + 7];
        int n = 0;
        for (int what = 0; what < 12; what++) {
            numbers[n++] = x.state(what);
        }
        for (int lot = 0; lot < lots; lot++) {
            for (int what = 0; what < 9; what++) {
                numbers[n++] = x.lot(lot, what);
            }
        }
        int best = x.best();
        numbers[n++] = best;
        for (int what = 0; what < 7; what++) {
            numbers[n++] = x.choice(best, what);
        }
        return sumOf(numbers);
    }

    private void sumWithoutLots() {
        check.same("a new object", new LotSheet().checksum(),
                sumOf(20, 0, 0, 0, 0, 0, 0, 0, 0, 0, 0, 3, 0, 0, 0, 0, 0, 0, 0, 0));
        check.same("a loaded one", Sheets.of("bill 40;slip 9;").checksum(),
                sumOf(40, 0, 0, 0, 0, 0, 0, 0, 0, 0, 0, 9, 0, 0, 0, 0, 0, 0, 0, 0));
    }

    private void sumWrapsAround() {
        LotSheet x = Sheets.of("bill 9;" + "lot 9 9999 9;".repeat(24));
        check.same("24 lots", x.checksum(), sumOfAnswers(x));
        int below = 0;
        for (int lots = 0; lots <= 24; lots++) {
            LotSheet y = Sheets.of("bill 40;" + "lot 9 9999 9;".repeat(lots));
            long sum = y.checksum();
            check.same(lots + " lots", sum, sumOfAnswers(y));
            below += sum < 0 ? 1 : 0;
        }
        check.isTrue("sums below 0 are among them", below > 0);
    }

    private void sumOfNegative() {
        LotSheet x = Sheets.of("bill 4;" + "lot 4 0 0in;".repeat(8));
        check.same("8 lots that are not printed", x.checksum(), sumOfAnswers(x));
        LotSheet one = Sheets.of("bill 4;lot 4 0 0in;");
        check.same("one of them", one.checksum(), sumOf(4, 1, 0, 1, 1, 0, 0, 0, 0, 0, 0, 3,
                4, 0, 0, 0, 1, 0, 0, -1, -1, 0, 10, 0, 0, 0, 1, 1, 0));
    }

    private void sumOfBest() {
        LotSheet x = Twins.manyDifferent();
        x.setCost(3, 99);
        check.same("best()", x.best(), 255);
        check.same("the best choice is 255", x.checksum(), sumOfAnswers(x));
        LotSheet none = Twins.manyLots();
        check.same("none is different", none.checksum(), sumOfAnswers(none));
        LotSheet busy = Twins.busy();
        check.same("slipped lots and an account", busy.checksum(), sumOfAnswers(busy));
    }
}
