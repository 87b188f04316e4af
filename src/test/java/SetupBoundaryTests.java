import java.math.BigInteger;
import java.util.ArrayList;
import java.util.List;
import java.util.NoSuchElementException;
import java.util.function.ToIntFunction;

/** Promises 1 to 4 and the setup text: a test for each sentence that names a boundary case. */
public final class SetupBoundaryTests {
    private static final Class<IllegalArgumentException> ARGUMENT = IllegalArgumentException.class;
    private static final Class<IllegalStateException> STATE = IllegalStateException.class;
    private static final Class<IndexOutOfBoundsException> INDEX = IndexOutOfBoundsException.class;
    private static final Class<NoSuchElementException> ELEMENT = NoSuchElementException.class;
    private static final int SYNTAX = LotSheet.SYNTAX_ERROR;
    private static final int RANGE = LotSheet.OUT_OF_RANGE;
    private static final int MANY = LotSheet.TOO_MANY;

    /** Where a number can stand in a text, what it may be, and which call tells it. */
    private record Place(String name, String ahead, String behind, int least, int most, ToIntFunction<LotSheet> told) {
    }

    private final Check check = new Check();
    private final Twins twins = new Twins(check);

    public static void main(String[] args) {
        SetupBoundaryTests t = new SetupBoundaryTests();
        t.newObject();
        t.buffer();
        t.lengths();
        t.numbers();
        t.tokens();
        t.statements();
        t.firstErrors();
        t.offsets();
        t.check.end();
    }

    private void newObject() {
        check.test("1: a new object has no lots", this::newHasNoLots);
        check.test("1: a new object has an empty input buffer", this::newHasEmptyBuffer);
        check.test("before the first load: height 20, all as without statements", this::newIsAsWithoutStatements);
        check.test("before the first successful load: a failed one is none", this::failedLoadIsNone);
    }

    private void buffer() {
        check.test("2: append takes 500 bytes", this::appendTakes500);
        check.test("2: append returns -1 beyond 500 bytes, the buffer is unchanged then", this::appendBeyond500);
        check.test("2: append behind load begins at 0", this::appendBehindLoad);
        check.test("2: each of the 20 bytes, each of the 256 values", this::everyByte);
    }

    private void lengths() {
        check.test("3: a negative length is refused", this::negativeLength);
        check.test("3: a length greater than the buffer's is refused", this::lengthTooGreat);
        check.test("3: the least and the greatest length", this::leastAndGreatestLength);
        check.test("3: the text ends at the length, whatever is behind it", this::textEndsAtLength);
        check.test("3: a text of 500 bytes", this::textOf500);
        check.test("3: the buffer is empty afterwards, also with an error", this::emptyAfterwards);
        check.test("3: an error leaves all other data unchanged", this::errorLeavesData);
        check.test("3: a small bill replaces all of a full one", this::smallBehindFull);
        check.test("3: an empty text has a SYNTAX_ERROR", this::emptyText);
        check.test("3: returns the number of lots, 0 to 24", this::returnsLots);
    }

    // ---- the new object

    private void newHasNoLots() {
        LotSheet x = new LotSheet();
        check.same("state(1)", x.state(1), 0);
        check.raises("lot(0, 0)", INDEX, () -> x.lot(0, 0));
        check.raises("page(0, 0)", INDEX, () -> x.page(0, 0));
        check.raises("standing(0, 0)", INDEX, () -> x.standing(0, 0));
        check.raises("numbered(0)", ELEMENT, () -> x.numbered(0));
        check.raises("numbered(1)", ELEMENT, () -> x.numbered(1));
        check.raises("different(0)", ELEMENT, () -> x.different(0));
        check.raises("choice(1, 0)", ARGUMENT, () -> x.choice(1, 0));
        check.raises("pays(0)", INDEX, () -> x.pays(0));
        check.raises("dearest(0)", ELEMENT, () -> x.dearest(0));
        check.raises("through(0)", ELEMENT, () -> x.through(0));
        check.raises("withdraw(0)", INDEX, () -> x.withdraw(0));
        check.raises("restore(0)", INDEX, () -> x.restore(0));
        check.raises("carry(1)", ARGUMENT, () -> x.carry(1));
        check.same("best()", x.best(), 0);
        check.sameDouble("filled()", x.filled(), 0.0);
        for (int s = 0; s <= 9; s++) {
            check.same("lots of seller " + s, x.seller(s, 0) + x.seller(s, 1) + x.seller(s, 2), 0);
        }
        check.same("undo()", x.undo(), -1);
    }

    private void newHasEmptyBuffer() {
        check.raises("load(1)", ARGUMENT, () -> new LotSheet().load(1));
        check.same("load(0)", new LotSheet().load(0), SYNTAX);
        check.same("append()", new LotSheet().append(0, 0, 0, 0, 0), 20);
    }

    private void newIsAsWithoutStatements() {
        twins.alike("a new object", afterManyChanges(new LotSheet()), afterManyChanges(Sheets.of("bill 20;")));
        LotSheet x = new LotSheet();
        check.same("state(0)", x.state(0), 20);
        check.same("state(8)", x.state(8), 0);
        check.same("state(11)", x.state(11), 3);
        int[] costs = {1, 5, 10, 8, 2};
        for (int i = 0; i < 5; i++) {
            check.same("the cost " + i, x.setCost(i, 99), costs[i]);
        }
        LotSheet y = new LotSheet();
        check.same("a lot of 9 lines", y.add(0, 9, 9999, 9), 1);
        check.same("its costs", y.carry(1), 9 + 5 + 10);
        check.same("page(0, 2)", y.page(0, 2), 11);
        check.same("the last line", y.standing(0, 19), -1);
        check.raises("the next line", ARGUMENT, () -> y.standing(0, 20));
    }

    /** Any load is final then, and all data are as they were. */
    private static LotSheet afterManyChanges(LotSheet x) {
        for (int n = 0; n < 9; n++) {
            x.setCost(0, x.setCost(0, 7));
        }
        return x;
    }

    private void failedLoadIsNone() {
        LotSheet x = new LotSheet();
        check.same("load", Sheets.load(x, "bill 30;slip 9;costs 0 0 0 0 0;lot 1 1 1;x"), SYNTAX);
        check.same("state(0)", x.state(0), 20);
        check.same("state(1)", x.state(1), 0);
        check.same("state(11)", x.state(11), 3);
        check.same("the cost line", x.setCost(0, 7), 1);
        check.same("undo()", x.undo(), 0);
        check.same("undo()", x.undo(), -1);
    }

    // ---- the buffer

    private static LotSheet filledWith(String text) {
        LotSheet x = new LotSheet();
        Sheets.append(x, text);
        return x;
    }

    private static String padded(String head, int length, String tail) {
        return head + " ".repeat(length - head.length() - tail.length()) + tail;
    }

    private void appendTakes500() {
        LotSheet x = new LotSheet();
        for (int n = 20; n <= 500; n += 20) {
            check.same("append", x.append(1, 2, 3, 4, 5), n);
        }
    }

    private void appendBeyond500() {
        String text = padded("bill 9;", 500, "lot 1 2 3;");
        LotSheet x = filledWith(text);
        for (int n = 0; n < 3; n++) {
            check.same("append", x.append(-1, -1, -1, -1, -1), -1);
        }
        check.raises("load(501)", ARGUMENT, () -> x.load(501));
        check.raises("load(520)", ARGUMENT, () -> x.load(520));
        check.same("load(500)", x.load(500), 1);
        check.same("lot(0, 2)", x.lot(0, 2), 3);
        LotSheet refused = filledWith(text);
        refused.append(0x62696c6c, 0x20343b20, 0x20202020, 0x20202020, 0x20202020);
        twins.alike("after append that returned -1", refused, filledWith(text));
    }

    private void appendBehindLoad() {
        LotSheet x = filledWith(padded("bill 9;", 500, ""));
        check.same("load", x.load(7), 0);
        check.same("append behind a load", x.append(0, 0, 0, 0, 0), 20);
        check.same("load", x.load(20), SYNTAX);
        check.same("append behind a load with an error", x.append(0, 0, 0, 0, 0), 20);
        check.raises("load(21)", ARGUMENT, () -> x.load(21));
        check.same("append behind a load that threw", x.append(0, 0, 0, 0, 0), 40);
    }

    /** Behind 20 spaces one byte alone is no space: the error tells where it stands. */
    private void everyByte() {
        for (int b = 0; b < 256; b++) {
            LotSheet x = new LotSheet();
            for (int i = 0; i < 20; i++) {
                StringBuilder text = new StringBuilder(" ".repeat(40));
                text.setCharAt(20 + i, (char) b);
                Sheets.append(x, text.toString());
                check.same("load of byte " + b, x.load(40), SYNTAX);
                check.same("errorOffset() of byte " + b, x.errorOffset(), b == ' ' ? 40 : 20 + i);
            }
        }
    }

    // ---- the length

    private static LotSheet withBill7() {
        return filledWith("bill 7;lot 1 1 1;");
    }

    private void negativeLength() {
        for (int length : new int[] {-1, -20, Integer.MIN_VALUE}) {
            twins.refuse("load(" + length + ")", ARGUMENT, SetupBoundaryTests::withBill7, x -> x.load(length));
            twins.refuse("load(" + length + ") of a busy object", ARGUMENT, Twins::busy, x -> x.load(length));
            twins.refuse("load(" + length + ") of a new one", ARGUMENT, LotSheet::new, x -> x.load(length));
        }
    }

    private void lengthTooGreat() {
        for (int length : new int[] {21, 40, 500, 501, Integer.MAX_VALUE}) {
            twins.refuse("load(" + length + ")", ARGUMENT, SetupBoundaryTests::withBill7, x -> x.load(length));
            twins.refuse("load(" + length + ") of a busy object", ARGUMENT, Twins::busy, x -> x.load(length));
        }
        twins.refuse("load(1) of a new object", ARGUMENT, LotSheet::new, x -> x.load(1));
        twins.refuse("load(501) of a full buffer", ARGUMENT,
                () -> filledWith(padded("bill 9;", 500, "")), x -> x.load(501));
    }

    private void leastAndGreatestLength() {
        LotSheet x = withBill7();
        check.same("load(20)", x.load(20), 1);
        Sheets.append(x, "bill 7;lot 1 1 1;");
        check.same("load(0)", x.load(0), SYNTAX);
        check.same("errorOffset()", x.errorOffset(), 0);
        check.raises("the buffer is empty then", ARGUMENT, () -> x.load(1));
        check.same("state(1)", x.state(1), 1);
    }

    private void cut(String text, int length, int due, int offset) {
        LotSheet x = filledWith(text);
        String what = "load(" + length + ") of " + text;
        check.same(what, x.load(length), due);
        check.same("errorOffset() of " + what, x.errorOffset(), offset);
    }

    private void textEndsAtLength() {
        String text = "bill 20;lot 1 1 1outs;lot 1 1 1;";
        cut(text, 3, SYNTAX, 0);
        cut(text, 4, SYNTAX, 4);
        cut(text, 5, SYNTAX, 5);
        cut(text, 6, RANGE, 5);
        cut(text, 7, SYNTAX, 7);
        cut(text, 8, 0, -1);
        cut(text, 10, SYNTAX, 8);
        cut(text, 11, SYNTAX, 11);
        cut(text, 12, SYNTAX, 12);
        cut(text, 17, SYNTAX, 17);
        cut(text, 18, SYNTAX, 17);
        cut(text, 20, SYNTAX, 20);
        cut(text, 21, SYNTAX, 17);
        cut("bill 200;", 7, SYNTAX, 7);
        cut("bill 20;lot 1 1 1in;lot", 20, 1, -1);
        cut("bill 20;lot 1 1 1in;lot", 19, SYNTAX, 19);
        cut("bill 20;lot 1 1 1;\u00ff", 18, 1, -1);
        cut("bill 20;lot 1 1 1;\u00ff", 19, SYNTAX, 18);
        // What an earlier text left in the buffer is not read.
        LotSheet x = Sheets.of("bill 20;lot 1 1 1;lot 1 1 1;lot 1 1 1;");
        Sheets.append(x, "bill 20;lot 1 1 1;  ");
        check.same("a shorter text", x.load(20), 1);
        Sheets.append(x, "bill 20;lot 1 1 1   ");
        check.same("a shorter text without its end", x.load(20), SYNTAX);
        check.same("its offset", x.errorOffset(), 20);
    }

    private void textOf500() {
        cut(padded("bill 20", 500, ";"), 500, 0, -1);
        cut(padded("bill 20", 500, ";"), 499, SYNTAX, 499);
        cut(padded("bill 20;", 500, "?"), 500, SYNTAX, 499);
        cut(padded("bill 20;", 500, "?"), 499, 0, -1);
        cut(padded("bill 20;", 500, "lot"), 500, SYNTAX, 500);
        cut(padded("bill 20;", 500, "lot 1 1 1"), 500, SYNTAX, 500);
        cut(padded("bill 20;", 500, "lot 1 1 1in"), 500, SYNTAX, 500);
        cut(padded("bill 20;", 500, "lot 1 1 1in;"), 500, 1, -1);
        cut(padded("bill 20;", 500, "slip 10"), 500, RANGE, 498);
        cut(padded("bill 20;" + "lot 1 1 1;".repeat(24), 500, "lot"), 500, MANY, 497);
        cut(padded("", 500, ""), 500, SYNTAX, 500);
        cut(";".repeat(500), 500, SYNTAX, 0);
    }

    private void emptyAfterwards() {
        LotSheet x = filledWith(padded("bill 20;", 500, ""));
        check.same("load(8) of 500 bytes", x.load(8), 0);
        check.raises("load(1) then", ARGUMENT, () -> x.load(1));
        for (String text : new String[] {"lot", "bill 3;", "bill 9;" + "lot 1 1 1;".repeat(25)}) {
            check.isTrue(text + " has an error", Sheets.load(x, text) < 0);
            check.raises("load(1) after " + text, ARGUMENT, () -> x.load(1));
        }
        check.same("append", x.append(0, 0, 0, 0, 0), 20);
    }

    private void errorLeavesData() {
        String full = "bill 9;" + "lot 1 1 1;".repeat(24);
        String[] texts = {"", "bill 9;slip 1;costs 9 9 9 9 9;lot 1 1 1;lot", "bill 9;slip 1;costs 0 0 0 0 0;lot 0 1 1;",
            full + "lot 1 1 1;", "bill 9;" + "lot 1 1 1in;".repeat(9), "bill 9;slip 5;slip 5;", "bill 3;"};
        for (String text : texts) {
            LotSheet x = Twins.busy();
            x.load(0);
            Sheets.append(x, text);
            check.isTrue("the text has an error: " + text, x.load(text.length()) < 0);
            LotSheet due = Twins.busy();
            due.load(0);
            // The error offset is no part of what stays: both end with the same one.
            Sheets.load(x, "?");
            Sheets.load(due, "?");
            twins.alike("after load of " + text, x, due);
        }
    }

    private void smallBehindFull() {
        String[] full = {"bill 9;" + "lot 9 9999 9;".repeat(24), "bill 40;" + "lot 1 1 1;".repeat(24),
            "bill 9;slip 9;costs 9 9 9 9 9;" + "lot 9 9 9in;".repeat(4) + "lot 8 8 8out;".repeat(4)};
        String[] small = {"bill 4;", "bill 5;lot 2 3 1;lot 1 4 1in;lot 3 5 1out;lot 1 6 2in;", "bill 4;lot 1 1 1;",
            "bill 6;lot 1 2 3in;lot 2 3 4in;lot 4 4 4in;", "bill 20;lot 9 9 9;"};
        for (String f : full) {
            for (String s : small) {
                LotSheet x = Sheets.of(f);
                x.carry((1 << x.state(4)) - 1);
                Sheets.load(x, s);
                twins.answerAlike(s + " behind " + f, x, Sheets.of(s));
            }
        }
    }

    private void emptyText() {
        LotSheet x = new LotSheet();
        check.same("load(0)", x.load(0), SYNTAX);
        check.same("errorOffset()", x.errorOffset(), 0);
        check.same("load(0) after a text", Sheets.of("bill 4;").load(0), SYNTAX);
    }

    private void returnsLots() {
        for (int n = 0; n <= 24; n++) {
            LotSheet x = new LotSheet();
            check.same(n + " lots", Sheets.load(x, "bill 20;" + "lot 1 1 1;".repeat(n)), n);
            check.same("state(1)", x.state(1), n);
        }
    }

    // ---- numbers of the text

    private static List<Place> places() {
        List<Place> r = new ArrayList<>();
        r.add(new Place("the height", "bill ", ";", 4, 40, x -> x.state(0)));
        r.add(new Place("the lines of a lot", "bill 40;lot ", " 5 6;", 1, 9, x -> x.lot(0, 0)));
        r.add(new Place("lines at a height of 4", "bill 4;lot ", " 5 6in;", 1, 4, x -> x.lot(0, 0)));
        r.add(new Place("lines at a height of 8", "bill 8;lot ", " 5 6out;", 1, 8, x -> x.lot(0, 0)));
        r.add(new Place("lines at a height of 9", "bill 9;lot ", " 5 6;", 1, 9, x -> x.lot(0, 0)));
        r.add(new Place("lines at a height of 10", "bill 10;lot ", " 5 6;", 1, 9, x -> x.lot(0, 0)));
        r.add(new Place("the estimate", "bill 40;lot 1 ", " 6;", 0, 9999, x -> x.lot(0, 1)));
        r.add(new Place("the seller", "bill 40;lot 1 5 ", ";", 0, 9, x -> x.lot(0, 2)));
        r.add(new Place("the seller ahead of out", "bill 40;lot 1 5 ", "out;", 0, 9, x -> x.lot(0, 2)));
        r.add(new Place("the seller ahead of in", "bill 40;lot 1 5 ", " in;", 0, 9, x -> x.lot(0, 2)));
        r.add(new Place("the cost line", "bill 40;costs ", " 51 52 53 54;", 0, 99, x -> x.setCost(0, 1)));
        r.add(new Place("the cost page", "bill 40;costs 50 ", " 52 53 54;", 0, 99, x -> x.setCost(1, 1)));
        r.add(new Place("the cost paper", "bill 40;costs 50 51 ", " 53 54;", 0, 99, x -> x.setCost(2, 1)));
        r.add(new Place("the cost slip", "bill 40;costs 50 51 52 ", " 54;", 0, 99, x -> x.setCost(3, 1)));
        r.add(new Place("the cost entry", "bill 40;costs 50 51 52 53 ", ";", 0, 99, x -> x.setCost(4, 1)));
        r.add(new Place("the room of a slip", "bill 40;slip ", ";", 1, 9, x -> x.state(11)));
        return r;
    }

    private void numbers() {
        for (Place p : places()) {
            check.test("text: the least of " + p.name, () -> {
                taken(p, "" + p.least);
                if (p.least > 0) {
                    outOfRange(p, "" + (p.least - 1));
                    outOfRange(p, "0");
                }
            });
            check.test("text: the greatest of " + p.name, () -> {
                taken(p, "" + p.most);
                outOfRange(p, "" + (p.most + 1));
            });
            check.test("text: each number of " + p.name, () -> {
                for (int n = p.least; n <= p.most; n += p.most > 100 ? 101 : 1) {
                    taken(p, "" + n);
                }
            });
            check.test("text: a minus is no part of " + p.name, () -> error(SYNTAX, p.ahead.length(),
                    p.ahead + "-" + p.most + p.behind));
            check.test("text: leading zeros of " + p.name, () -> leadingZeros(p));
            check.test("text: many digits of " + p.name, () -> manyDigits(p));
        }
    }

    private void taken(Place p, String number) {
        String text = p.ahead + number + p.behind;
        LotSheet x = new LotSheet();
        check.isTrue("taken is " + text, Sheets.load(x, text) >= 0);
        check.same("errorOffset() of " + text, x.errorOffset(), -1);
        if (x.errorOffset() < 0) {
            check.same(p.name + " of " + text, p.told.applyAsInt(x), new BigInteger(number).intValueExact());
        }
    }

    private void outOfRange(Place p, String number) {
        error(RANGE, p.ahead.length(), p.ahead + number + p.behind);
        error(RANGE, p.ahead.length() + 3, p.ahead + "   " + number + p.behind);
        error(RANGE, p.ahead.length(), p.ahead + number);
    }

    private void leadingZeros(Place p) {
        for (int zeros : new int[] {1, 2, 9, 10, 19, 20, 400}) {
            taken(p, "0".repeat(zeros) + p.least);
            taken(p, "0".repeat(zeros) + p.most);
            outOfRange(p, "0".repeat(zeros) + (p.most + 1));
            if (p.least > 0) {
                outOfRange(p, "0".repeat(zeros));
            }
        }
        int room = 500 - p.ahead.length() - p.behind.length() - 4;
        taken(p, "0".repeat(room) + "000" + p.least);
    }

    /** Numbers that would be allowed if digits above some place were lost. */
    private void manyDigits(Place p) {
        List<BigInteger> high = new ArrayList<>();
        for (int bits : new int[] {16, 31, 32, 33, 63, 64, 65, 128}) {
            high.add(BigInteger.ONE.shiftLeft(bits));
        }
        for (int digits = 5; digits < 60; digits++) {
            high.add(BigInteger.TEN.pow(digits));
        }
        for (BigInteger h : high) {
            outOfRange(p, h.toString());
            outOfRange(p, h.add(BigInteger.valueOf(p.least)).toString());
            outOfRange(p, h.add(BigInteger.valueOf(p.most)).toString());
            outOfRange(p, "00" + h.subtract(BigInteger.ONE));
        }
        outOfRange(p, "9".repeat(400));
        outOfRange(p, "1" + "0".repeat(400));
        outOfRange(p, p.most + "0".repeat(400));
    }

    // ---- tokens

    private void error(int code, int offset, String text) {
        LotSheet x = new LotSheet();
        check.same("load of " + text, Sheets.load(x, text), code);
        check.same("errorOffset() of " + text, x.errorOffset(), offset);
        check.same("lots after " + text, x.state(1), 0);
        check.same("undo() after " + text, x.undo(), -1);
    }

    private void right(int lots, String text) {
        LotSheet x = new LotSheet();
        check.same("load of " + text, Sheets.load(x, text), lots);
        check.same("errorOffset() of " + text, x.errorOffset(), -1);
    }

    private void tokens() {
        check.test("text: spaces may precede any token and follow the last one", this::manySpaces);
        check.test("text: spaces are needed only between two numbers", this::noSpaces);
        check.test("text: no other byte separates tokens, ahead of the text", () -> otherBytes("", "bill 20;"));
        check.test("text: no other byte separates tokens, behind bill", this::otherBytesBehindBill);
        check.test("text: no other byte separates tokens, behind a number", this::otherBytesBehindHeight);
        check.test("text: no other byte separates tokens, between numbers", this::otherBytesBetweenNumbers);
        check.test("text: no other byte separates tokens, ahead of a word", this::otherBytesAheadOfWord);
        check.test("text: no other byte separates tokens, behind the text", () -> otherBytes("bill 20;", ""));
        check.test("text: a word is a run as long as possible", this::longWords);
        check.test("text: a word is no shorter than it is", this::shortWords);
        check.test("text: words are of the letters a to z", this::capitals);
    }

    private void manySpaces() {
        String[] tokens = {"bill", "20", ";", "lot", "1", "2", "3", "out", ";", "lot", "4", "5", "6", "in", ";",
            "costs", "1", "2", "3", "4", "5", ";", "slip", "6", ";"};
        for (int spaces : new int[] {1, 2, 14}) {
            StringBuilder text = new StringBuilder();
            for (String t : tokens) {
                text.append(" ".repeat(spaces)).append(t);
            }
            right(2, text.toString());
            right(2, text + " ".repeat(spaces));
        }
    }

    private void noSpaces() {
        LotSheet x = Sheets.of("bill20;lot1 2 3out;lot4 5 6in;costs7 8 9 10 11;slip6;lot1 1 1;");
        check.same("state(1)", x.state(1), 3);
        check.same("state(4)", x.state(4), 2);
        check.same("state(11)", x.state(11), 6);
        check.same("the cost entry", x.setCost(4, 0), 11);
        error(SYNTAX, 15, "bill20;lot 1 11;");
        error(RANGE, 11, "bill20;lot 11 1;");
        error(SYNTAX, 20, "bill20;costs1 2 3 45;");
    }

    private void otherBytes(String ahead, String behind) {
        for (int b = 0; b < 256; b++) {
            String text = ahead + (char) b + behind;
            if (b == ' ') {
                right(0, text);
            } else {
                error(SYNTAX, ahead.length(), text);
            }
        }
    }

    private static boolean letter(int b) {
        return b >= 'a' && b <= 'z';
    }

    private static boolean digit(int b) {
        return b >= '0' && b <= '9';
    }

    private void otherBytesBehindBill() {
        for (int b = 0; b < 256; b++) {
            String text = "bill" + (char) b + "20;";
            if (b == ' ' || b == '0') {
                right(0, text);
            } else if (letter(b)) {
                error(SYNTAX, 0, text);
            } else {
                error(digit(b) ? RANGE : SYNTAX, 4, text);
            }
        }
    }

    private void otherBytesBehindHeight() {
        for (int b = 0; b < 256; b++) {
            String text = "bill 20" + (char) b + ";";
            if (b == ' ') {
                right(0, text);
            } else if (digit(b)) {
                error(RANGE, 5, text);
            } else {
                error(SYNTAX, b == ';' ? 8 : 7, text);
            }
        }
    }

    private void otherBytesBetweenNumbers() {
        for (int b = 0; b < 256; b++) {
            String text = "bill 20;lot 1" + (char) b + "1 1;";
            if (b == ' ') {
                right(1, text);
            } else {
                error(digit(b) ? RANGE : SYNTAX, digit(b) ? 12 : 13, text);
            }
        }
    }

    private void otherBytesAheadOfWord() {
        for (int b = 0; b < 256; b++) {
            String text = "bill 20;lot 1 1 1" + (char) b + "in;";
            if (b == ' ') {
                right(1, text);
            } else if (digit(b)) {
                error(RANGE, 16, text);
            } else {
                error(SYNTAX, b == ';' ? 18 : 17, text);
            }
        }
    }

    private void longWords() {
        for (char c = 'a'; c <= 'z'; c++) {
            error(SYNTAX, 0, "bill" + c + " 20;");
            error(SYNTAX, 0, c + "bill 20;");
            error(SYNTAX, 8, "bill 20;lot" + c + " 1 1 1;");
            error(SYNTAX, 8, "bill 20;" + c + "lot 1 1 1;");
            error(SYNTAX, 8, "bill 20;costs" + c + " 1 1 1 1 1;");
            error(SYNTAX, 8, "bill 20;slip" + c + " 1;");
            error(SYNTAX, 17, "bill 20;lot 1 1 1out" + c + ";");
            error(SYNTAX, 17, "bill 20;lot 1 1 1in" + c + ";");
        }
        error(SYNTAX, 8, "bill 20;lotslip 1;");
        error(SYNTAX, 18, "bill 20;lot 1 1 1 inout;");
        error(SYNTAX, 18, "bill 20;lot 1 1 1 inlot 1 1 1;");
    }

    private void shortWords() {
        error(SYNTAX, 0, "bil 20;");
        error(SYNTAX, 0, "bil l 20;");
        error(SYNTAX, 8, "bill 20;lo 1 1 1;");
        error(SYNTAX, 8, "bill 20;l ot 1 1 1;");
        error(SYNTAX, 8, "bill 20;cost 1 1 1 1 1;");
        error(SYNTAX, 8, "bill 20;sli 1;");
        error(SYNTAX, 17, "bill 20;lot 1 1 1ou;");
        error(SYNTAX, 17, "bill 20;lot 1 1 1ou t;");
        error(SYNTAX, 17, "bill 20;lot 1 1 1i;");
        error(SYNTAX, 17, "bill 20;lot 1 1 1i n;");
    }

    private void capitals() {
        error(SYNTAX, 0, "BILL 20;");
        error(SYNTAX, 3, "   biLl 20;");
        error(SYNTAX, 8, "bill 20;Lot 1 1 1;");
        error(SYNTAX, 8, "bill 20;loT 1 1 1;");
        error(SYNTAX, 17, "bill 20;lot 1 1 1IN;");
        // The capital ends the word lot, and is itself what is not allowed.
        error(SYNTAX, 11, "bill 20;lotS 1 1 1;");
        error(SYNTAX, 19, "bill 20;lot 1 1 1inS;");
    }

    // ---- statements

    private void statements() {
        check.test("text: no statement at all", () -> right(0, "bill 20;"));
        check.test("text: costs may occur once", this::costsOnce);
        check.test("text: slip may occur once", this::slipOnce);
        check.test("text: costs 1, 5, 10, 8 and 2 without the statement", this::costsWithout);
        check.test("text: a room of 3 without slip", () -> check.same("room", Sheets.of("bill 4;").state(11), 3));
        check.test("text: the account is 0", this::accountIsZero);
        check.test("text: lots are not slipped", this::lotsNotSlipped);
        check.test("text: bill stands once, at the start", this::billOnce);
        check.test("text: each statement has its numbers", this::numbersOfStatements);
        check.test("text: a semicolon behind each statement", this::semicolons);
        check.test("text: out or in stand once", this::outOrInOnce);
        check.test("text: the 25th lot", this::lot25);
        check.test("text: the 9th different lot", this::different9);
        check.test("text: a full bill with 8 different lots", this::fullText);
    }

    private void costsOnce() {
        right(0, "bill 20;costs 1 2 3 4 5;");
        error(SYNTAX, 24, "bill 20;costs 1 2 3 4 5;costs 1 2 3 4 5;");
        error(SYNTAX, 26, "bill 20;costs 1 2 3 4 5;  costs");
        error(SYNTAX, 24, "bill 20;costs 1 2 3 4 5;costs 100 2 3 4 5;");
        error(SYNTAX, 25, "bill 20;costs 1 5 10 8 2;costs 1 5 10 8 2;");
        error(SYNTAX, 41, "bill 20;costs 1 2 3 4 5;slip 3;lot 1 1 1;costs 1 2 3 4 5;");
    }

    private void slipOnce() {
        right(0, "bill 20;slip 3;");
        error(SYNTAX, 15, "bill 20;slip 3;slip 4;");
        error(SYNTAX, 17, "bill 20;slip 3;  slip");
        error(SYNTAX, 15, "bill 20;slip 3;slip 10;");
        error(SYNTAX, 41, "bill 20;slip 3;costs 1 2 3 4 5;lot 1 1 1;slip 3;");
        // What a text tells once may be told once again by the next text.
        LotSheet x = Sheets.of("bill 20;slip 3;costs 1 1 1 1 1;");
        check.same("the next text", Sheets.load(x, "bill 20;slip 4;costs 2 2 2 2 2;"), 0);
        check.same("a text with an error", Sheets.load(x, "bill 20;slip 4;costs 2 2 2 2 2;?"), SYNTAX);
        check.same("the text behind it", Sheets.load(x, "bill 20;slip 5;costs 3 3 3 3 3;"), 0);
        check.same("state(11)", x.state(11), 5);
    }

    private void costsWithout() {
        LotSheet x = Sheets.of("bill 20;costs 91 92 93 94 95;");
        Sheets.load(x, "bill 20;slip 1;lot 1 1 1;");
        int[] costs = {1, 5, 10, 8, 2};
        for (int i = 0; i < 5; i++) {
            check.same("the cost " + i, x.setCost(i, 0), costs[i]);
        }
    }

    private void accountIsZero() {
        LotSheet x = Sheets.of("bill 20;lot 1 1 1in;");
        check.same("press()", x.press(), 10);
        check.same("state(8)", x.state(8), 10);
        Sheets.load(x, "bill 20;lot 1 1 1in;");
        check.same("state(8) after load", x.state(8), 0);
    }

    private void lotsNotSlipped() {
        LotSheet x = Sheets.of("bill 20;" + "lot 1 1 1in;".repeat(8));
        x.carry(0);
        check.same("slipped", x.state(5), 8);
        Sheets.load(x, "bill 20;" + "lot 1 1 1in;".repeat(8));
        check.same("slipped after load", x.state(5), 0);
    }

    private void billOnce() {
        error(SYNTAX, 0, "lot 1 1 1;");
        error(SYNTAX, 0, "slip 3;bill 20;");
        error(SYNTAX, 8, "bill 20;bill 20;");
        error(SYNTAX, 0, ";bill 20;");
    }

    private void numbersOfStatements() {
        error(SYNTAX, 4, "bill;");
        error(SYNTAX, 8, "bill 20 20;");
        error(SYNTAX, 11, "bill 20;lot;");
        error(SYNTAX, 13, "bill 20;lot 1;");
        error(SYNTAX, 15, "bill 20;lot 1 1;");
        error(SYNTAX, 12, "bill 20;lot in;");
        error(SYNTAX, 15, "bill 20;lot 1 1in;");
        error(SYNTAX, 18, "bill 20;lot 1 1 1 1;");
        error(SYNTAX, 20, "bill 20;lot 1 1 1in 1;");
        error(SYNTAX, 13, "bill 20;costs;");
        error(SYNTAX, 15, "bill 20;costs 1;");
        error(SYNTAX, 21, "bill 20;costs 1 2 3 4;");
        error(SYNTAX, 24, "bill 20;costs 1 2 3 4 5 6;");
        error(SYNTAX, 12, "bill 20;slip;");
        error(SYNTAX, 15, "bill 20;slip 3 3;");
    }

    private void semicolons() {
        error(SYNTAX, 7, "bill 20");
        error(SYNTAX, 7, "bill 20lot 1 1 1;");
        error(SYNTAX, 17, "bill 20;lot 1 1 1");
        error(SYNTAX, 18, "bill 20;lot 1 1 1 lot 1 1 1;");
        error(SYNTAX, 19, "bill 20;lot 1 1 1in");
        error(SYNTAX, 23, "bill 20;costs 1 2 3 4 5");
        error(SYNTAX, 14, "bill 20;slip 3");
        error(SYNTAX, 14, "bill 20;slip 3lot 1 1 1;");
        error(SYNTAX, 8, "bill 20;;");
        error(SYNTAX, 18, "bill 20;lot 1 1 1;;");
    }

    private void outOrInOnce() {
        error(SYNTAX, 21, "bill 20;lot 1 1 1 in in;");
        error(SYNTAX, 21, "bill 20;lot 1 1 1 in out;");
        error(SYNTAX, 22, "bill 20;lot 1 1 1 out in;");
        error(SYNTAX, 22, "bill 20;lot 1 1 1 out out;");
    }

    private void lot25() {
        String full = "bill 20;" + "lot 1 1 1;".repeat(24);
        right(24, full);
        right(24, full + "slip 3;costs 1 2 3 4 5;");
        error(MANY, 248, full + "lot 1 1 1;");
        error(MANY, 248, full + "lot");
        error(MANY, 253, full + "     lot;");
        error(MANY, 248, full + "lot 10 10000 10;");
        error(MANY, 255, full + "slip 3;lot 1 1 1;");
        error(SYNTAX, 248, full + "lots");
        error(SYNTAX, 248, full + "lo");
    }

    private void different9() {
        for (String word : new String[] {"in", "out"}) {
            String eight = "bill 20;" + ("lot 1 1 1" + word + ";").repeat(8);
            int end = eight.length();
            right(8, eight);
            right(10, eight + "lot 1 1 1;lot 1 1 1;");
            error(MANY, end + 9, eight + "lot 1 1 1in;");
            error(MANY, end + 9, eight + "lot 1 1 1out;");
            error(MANY, end + 12, eight + "lot 1 1 1   out");
            error(MANY, end + 19, eight + "lot 1 1 1;lot 1 1 1in;");
            error(MANY, end + 9, eight + "lot 1 1 1in in;");
            error(SYNTAX, end + 9, eight + "lot 1 1 1inn;");
            error(SYNTAX, end + 9, eight + "lot 1 1 1ou;");
            error(RANGE, end + 8, eight + "lot 1 1 10in;");
            error(SYNTAX, end + 7, eight + "lot 1 1in;");
        }
    }

    private void fullText() {
        String full = "bill 20;" + "lot 1 1 1in;".repeat(8) + "lot 1 1 1;".repeat(15) + "lot 9 9999 9;";
        LotSheet x = Sheets.of(full);
        check.same("lots", x.state(1), 24);
        check.same("different ones", x.state(4), 8);
        check.same("the last estimate", x.lot(23, 1), 9999);
        // The 25th lot comes ahead of its own in, the 9th different one.
        error(MANY, full.length(), full + "lot 1 1 1in;");
        String almost = "bill 20;" + "lot 1 1 1in;".repeat(8) + "lot 1 1 1;".repeat(15);
        error(MANY, almost.length() + 9, almost + "lot 1 1 1in;lot 1 1 1;");
    }

    // ---- which error is the first

    private void firstErrors() {
        check.test("text: the error with the smallest offset counts", this::smallestOffset);
        check.test("text: the end of the text, at its length", this::endOfText);
        check.test("text: a number out of range, at its first digit", this::firstDigit);
    }

    private void smallestOffset() {
        error(RANGE, 5, "bill 41 41 lot ?");
        error(RANGE, 5, "bill 3;lot 0 0 0;?");
        error(SYNTAX, 0, "bil 99;");
        error(RANGE, 11, "bill 4;lot 5 99999 99 inn");
        error(RANGE, 13, "bill 4;lot 1 99999 99 inn");
        error(RANGE, 15, "bill 4;lot 1 1 99 inn");
        error(SYNTAX, 17, "bill 4;lot 1 1 1 inn;lot 0 0 0;");
        error(SYNTAX, 13, "bill 4;lot 1 ?10000 99;");
        error(RANGE, 13, "bill 4;lot 1 10000?99;");
        error(RANGE, 13, "bill 4;costs 100 100 ?;");
        error(RANGE, 15, "bill 4;costs 1 100 ?;");
        error(RANGE, 12, "bill 4;slip 0;slip 3;");
        String eight = "bill 20;" + "lot 1 1 1in;".repeat(8);
        error(MANY, 113, eight + "lot 1 1 1in;lot 0 0 0;?");
        error(RANGE, 108, eight + "lot 0 1 1in;");
        String full = "bill 20;" + "lot 1 1 1;".repeat(23) + "lot 1 1 10;lot 1 1 1;";
        error(RANGE, 246, full);
    }

    private void endOfText() {
        String text = "bill 20;lot 1 1 1in;costs 1 2 3 4 5;slip 3;";
        int[] ends = {4, 7, 11, 13, 15, 17, 19, 25, 27, 29, 31, 33, 35, 40, 42};
        for (int end : ends) {
            error(SYNTAX, end, text.substring(0, end));
            error(SYNTAX, end + 3, text.substring(0, end) + "   ");
        }
        error(SYNTAX, 1, " ");
        error(SYNTAX, 500, " ".repeat(500));
        right(0, text.substring(0, 8));
        right(1, text.substring(0, 20));
        right(1, text.substring(0, 36));
        right(1, text + "   ");
    }

    private void firstDigit() {
        error(RANGE, 7, "bill   00041;");
        error(RANGE, 4, "bill41;");
        error(RANGE, 13, "bill 20; lot 00010 1 1;");
        error(RANGE, 17, "bill 20;lot 1 1  99999999999999999999999in;");
    }

    // ---- the error offset

    private void offsets() {
        check.test("4: -1 if there was no load", () -> check.same("offset", new LotSheet().errorOffset(), -1));
        check.test("4: -1 if the latest load found none", this::offsetOfNone);
        check.test("4: loads that threw do not count", this::offsetAfterThrow);
        check.test("4: the least and the greatest offset", this::leastAndGreatestOffset);
        check.test("4: the latest load counts", this::latestOffset);
        check.test("4 and 24: undo does not affect it", this::offsetAfterUndo);
    }

    private void offsetOfNone() {
        LotSheet x = new LotSheet();
        Sheets.load(x, "?");
        Sheets.load(x, "bill 4;");
        check.same("errorOffset()", x.errorOffset(), -1);
    }

    private void offsetAfterThrow() {
        LotSheet x = new LotSheet();
        check.raises("load(1)", ARGUMENT, () -> x.load(1));
        check.same("errorOffset() of a new object", x.errorOffset(), -1);
        Sheets.load(x, "bill 3;");
        check.raises("load(1)", ARGUMENT, () -> x.load(1));
        check.raises("load(-1)", ARGUMENT, () -> x.load(-1));
        check.same("errorOffset() after an error", x.errorOffset(), 5);
        Sheets.load(x, "bill 4;");
        check.raises("load(-1)", ARGUMENT, () -> x.load(-1));
        check.same("errorOffset() after a success", x.errorOffset(), -1);
    }

    private void leastAndGreatestOffset() {
        LotSheet x = new LotSheet();
        Sheets.load(x, "x");
        check.same("the least", x.errorOffset(), 0);
        Sheets.load(x, " ".repeat(500));
        check.same("the greatest", x.errorOffset(), 500);
    }

    private void latestOffset() {
        LotSheet x = new LotSheet();
        for (int n = 0; n < 20; n++) {
            Sheets.load(x, " ".repeat(n) + "?");
            check.same("errorOffset()", x.errorOffset(), n);
        }
    }

    private void offsetAfterUndo() {
        LotSheet x = Sheets.of("bill 4;");
        Sheets.load(x, "bill 3;");
        check.same("undo()", x.undo(), 0);
        check.same("errorOffset()", x.errorOffset(), 5);
        check.same("undo()", x.undo(), -1);
        check.same("errorOffset() then", x.errorOffset(), 5);
        LotSheet y = new LotSheet();
        Sheets.load(y, "bill 3;");
        Sheets.load(y, "bill 4;");
        check.same("undo() of load", y.undo(), 0);
        check.same("errorOffset() of the load that was undone", y.errorOffset(), -1);
        check.raises("withdraw(0)", INDEX, () -> y.withdraw(0));
        check.raises("add", ARGUMENT, () -> y.add(1, 1, 1, 1));
        check.same("errorOffset() after other calls that threw", y.errorOffset(), -1);
        LotSheet full = Twins.manyLots();
        check.raises("add to a full bill", STATE, () -> full.add(0, 1, 1, 1));
        check.same("errorOffset() after it", full.errorOffset(), -1);
    }
}
