import java.util.NoSuchElementException;

/**
 * An auctioneer's bill set in type while lots are withdrawn and added.
 * The document ../shared/DOC.md says what each public method promises.
 */
public final class LotSheet {
    public static final int SYNTAX_ERROR = -2;
    public static final int OUT_OF_RANGE = -3;
    public static final int TOO_MANY = -4;

    private static final int MOST_LOTS = 24;
    private static final int MOST_DIFFERENT = 8;
    private static final int MOST_CHOICES = 256;
    private static final int MOST_BYTES = 500;
    private static final int MOST_CHANGES = 8;

    private static final int MOST_LINES = 9;
    private static final int MOST_ESTIMATE = 9999;
    private static final int MOST_SELLER = 9;
    private static final int LEAST_HEIGHT = 4;
    private static final int MOST_HEIGHT = 40;
    private static final int MOST_COST = 99;
    private static final int MOST_ROOM = 9;
    private static final int MOST_THROUGH = 9999;
    private static final int GATHERING = 4;

    private static final int COST_LINE = 0;
    private static final int COST_PAGE = 1;
    private static final int COST_PAPER = 2;
    private static final int COST_SLIP = 3;
    private static final int COST_ENTRY = 4;
    private static final int COST_KINDS = 5;

    private static final int STATES = 12;
    private static final int LOT_FACTS = 9;

    private final SetupText input = new SetupText();
    private final Bill bill = new Bill();
    private final Bill loaded = new Bill();
    private final History history = new History();
    private final Layout now = new Layout();
    private final Choices choices = new Choices();
    private int latestErrorOffset = -1;

    public LotSheet() {
    }

    public int append(int w0, int w1, int w2, int w3, int w4) {
        if (!input.hasRoomFor(20)) {
            return -1;
        }
        input.putWord(w0);
        input.putWord(w1);
        input.putWord(w2);
        input.putWord(w3);
        input.putWord(w4);
        return input.size;
    }

    public int load(int length) throws IllegalArgumentException {
        if (length < 0 || length > input.size) {
            throw new IllegalArgumentException("no such length of the input buffer");
        }
        int error = input.readInto(loaded, length);
        latestErrorOffset = input.errorAt;
        if (error != 0) {
            return error;
        }
        history.remember(bill);
        bill.copyFrom(loaded);
        settle();
        return bill.count;
    }

    public int errorOffset() {
        return latestErrorOffset;
    }

    public int state(int what) throws IllegalArgumentException {
        switch (what) {
            case 0: return bill.height;
            case 1: return bill.count;
            case 2: return now.printedLots;
            case 3: return bill.wantedLots();
            case 4: return choices.count;
            case 5: return bill.slippedLots();
            case 6: return now.pages;
            case 7: return now.gatherings();
            case 8: return bill.account;
            case 9: return bill.wantedEstimates();
            case 10: return now.blankLinesAheadOfLastPage(bill.height);
            case 11: return bill.room;
            default: throw new IllegalArgumentException("no such state");
        }
    }

    public int lot(int lot, int what) throws IndexOutOfBoundsException, IllegalArgumentException {
        needLot(lot);
        switch (what) {
            case 0: return bill.lines[lot];
            case 1: return bill.estimates[lot];
            case 2: return bill.sellers[lot];
            case 3: return bill.printed[lot] ? 1 : 0;
            case 4: return bill.wanted[lot] ? 1 : 0;
            case 5: return bill.slipped[lot] ? 1 : 0;
            case 6: return now.numberOf[lot];
            case 7: return now.pageOf[lot];
            case 8: return now.lineOf[lot];
            default: throw new IllegalArgumentException("no such fact of a lot");
        }
    }

    public int page(int page, int what) throws IndexOutOfBoundsException, IllegalArgumentException {
        needPage(page);
        switch (what) {
            case 0: return now.lotsOn[page];
            case 1: return now.firstOn[page];
            case 2: return bill.height - now.usedOn[page];
            case 3: return wantedEstimatesOn(page);
            default: throw new IllegalArgumentException("no such fact of a page");
        }
    }

    public int standing(int page, int line) throws IndexOutOfBoundsException, IllegalArgumentException {
        needPage(page);
        if (line < 0 || line >= bill.height) {
            throw new IllegalArgumentException("no such line of a page");
        }
        for (int i = 0; i < bill.count; i++) {
            int lineOfLot = line - now.lineOf[i];
            if (now.pageOf[i] == page && lineOfLot >= 0 && lineOfLot < bill.lines[i]) {
                return 10 * i + lineOfLot;
            }
        }
        return -1;
    }

    public int numbered(int number) throws NoSuchElementException {
        if (number >= 1) {
            for (int i = 0; i < bill.count; i++) {
                if (now.numberOf[i] == number) {
                    return i;
                }
            }
        }
        throw new NoSuchElementException("no lot has this number");
    }

    public int different(int j) throws NoSuchElementException {
        if (j < 0 || j >= choices.count) {
            throw new NoSuchElementException("there are not so many different lots");
        }
        return choices.lots[j];
    }

    public int best() {
        return choices.cheapest(bill, now, 0, 0);
    }

    public int choice(int choice, int what) throws IllegalArgumentException {
        needChoice(choice);
        if (what < 0 || what >= Choices.FIGURES) {
            throw new IllegalArgumentException("no such figure of a choice");
        }
        choices.measure(bill, now, choice);
        return choices.figures[what];
    }

    public int pays(int lot) throws IndexOutOfBoundsException {
        needLot(lot);
        int j = choices.placeOf(lot);
        if (j < 0) {
            return 0;
        }
        int bit = 1 << j;
        int with = choices.cheapest(bill, now, bit, bit);
        int without = choices.cheapest(bill, now, bit, 0);
        return choices.priceOf(with) - choices.priceOf(without);
    }

    public int dearest(int k) throws NoSuchElementException {
        for (int i = 0; k >= 0 && i < bill.count; i++) {
            if (bill.wanted[i] && bill.dearerLots(i) == k) {
                return i;
            }
        }
        throw new NoSuchElementException("there are not so many wanted lots");
    }

    public int seller(int seller, int what) throws IllegalArgumentException {
        if (seller < 0 || seller > MOST_SELLER) {
            throw new IllegalArgumentException("no such seller");
        }
        switch (what) {
            case 0: return bill.wantedLotsOf(seller);
            case 1: return bill.wantedEstimatesOf(seller);
            case 2: return bill.printedLinesOf(seller);
            default: throw new IllegalArgumentException("no such fact of a seller");
        }
    }

    public int through(int line) throws NoSuchElementException {
        if (line < 0 || line > MOST_THROUGH) {
            throw new NoSuchElementException("no such line of a bill");
        }
        int end = 0;
        for (int i = 0; i < bill.count; i++) {
            if (bill.printed[i]) {
                end += bill.lines[i];
                if (line < end) {
                    return i;
                }
            }
        }
        throw new NoSuchElementException("there are not so many lines");
    }

    public double filled() {
        int linesOfPages = now.pages * bill.height;
        if (linesOfPages <= 0) {
            return 0.0;
        }
        return (double) now.printedLines / (double) linesOfPages;
    }

    public int withdraw(int lot) throws IndexOutOfBoundsException, IllegalStateException {
        needLot(lot);
        if (!bill.wanted[lot]) {
            throw new IllegalStateException("the lot is not wanted");
        }
        turnWanted(lot);
        return choices.count;
    }

    public int restore(int lot) throws IndexOutOfBoundsException, IllegalStateException {
        needLot(lot);
        if (bill.wanted[lot]) {
            throw new IllegalStateException("the lot is wanted");
        }
        turnWanted(lot);
        return choices.count;
    }

    public int add(int at, int lines, int estimate, int seller)
            throws IllegalArgumentException, IllegalStateException {
        if (at < 0 || at > bill.count || lines < 1 || lines > bill.mostLines()
                || estimate < 0 || estimate > MOST_ESTIMATE || seller < 0 || seller > MOST_SELLER) {
            throw new IllegalArgumentException("no lot can be like this");
        }
        if (bill.count >= MOST_LOTS || choices.count >= MOST_DIFFERENT) {
            throw new IllegalStateException("there is no room for one more lot");
        }
        history.remember(bill);
        bill.insert(at, lines, estimate, seller);
        bill.wanted[at] = true;
        settle();
        return bill.count;
    }

    public int carry(int choice) throws IllegalArgumentException {
        needChoice(choice);
        return carryOut(choice);
    }

    public int press() {
        return carryOut(best());
    }

    public int setCost(int which, int cost) throws IllegalArgumentException {
        if (which < 0 || which >= COST_KINDS || cost < 0 || cost > MOST_COST) {
            throw new IllegalArgumentException("no such cost");
        }
        history.remember(bill);
        int previous = bill.costs[which];
        bill.costs[which] = cost;
        settle();
        return previous;
    }

    public int undo() {
        int left = history.bringBack(bill);
        if (left >= 0) {
            settle();
        }
        return left;
    }

    public long checksum() {
        long sum = 0;
        for (int what = 0; what < STATES; what++) {
            sum = 31 * sum + state(what);
        }
        for (int i = 0; i < bill.count; i++) {
            for (int what = 0; what < LOT_FACTS; what++) {
                sum = 31 * sum + lot(i, what);
            }
        }
        int best = best();
        sum = 31 * sum + best;
        for (int what = 0; what < Choices.FIGURES; what++) {
            sum = 31 * sum + choice(best, what);
        }
        return sum;
    }

    private void needLot(int lot) {
        if (lot < 0 || lot >= bill.count) {
            throw new IndexOutOfBoundsException("no such lot");
        }
    }

    private void needPage(int page) {
        if (page < 0 || page >= now.pages) {
            throw new IndexOutOfBoundsException("no such page");
        }
    }

    private void needChoice(int choice) {
        if (!choices.has(choice)) {
            throw new IllegalArgumentException("no set of different lots");
        }
    }

    /** Brings what is derived from the bill up to date; every change of the bill ends with it. */
    private void settle() {
        now.lay(bill, bill.printed);
        choices.listFor(bill);
    }

    private int wantedEstimatesOn(int page) {
        int sum = 0;
        for (int i = 0; i < bill.count; i++) {
            if (now.pageOf[i] == page && bill.wanted[i]) {
                sum += bill.estimates[i];
            }
        }
        return sum;
    }

    /** For a lot that exists: wanted becomes not wanted, and the other way round. */
    private void turnWanted(int lot) {
        if (!bill.isDifferent(lot) && choices.count >= MOST_DIFFERENT) {
            throw new IllegalStateException("there would be too many different lots");
        }
        history.remember(bill);
        bill.wanted[lot] = !bill.wanted[lot];
        // It was not different and so not slipped, or it is not different any more.
        bill.slipped[lot] = false;
        settle();
    }

    private int carryOut(int choice) {
        choices.measure(bill, now, choice);
        int costs = choices.figures[Choices.COSTS];
        history.remember(bill);
        for (int j = 0; j < choices.count; j++) {
            if (choices.holds(choice, j)) {
                bill.setAnew(choices.lots[j]);
            } else {
                bill.slipped[choices.lots[j]] = true;
            }
        }
        bill.account += costs;
        settle();
        return costs;
    }

    /** All data that a change can change and that undo brings back. */
    private static final class Bill {
        int height;
        int count;
        int room;
        int account;
        final int[] costs = new int[COST_KINDS];
        final int[] lines = new int[MOST_LOTS];
        final int[] estimates = new int[MOST_LOTS];
        final int[] sellers = new int[MOST_LOTS];
        final boolean[] printed = new boolean[MOST_LOTS];
        final boolean[] wanted = new boolean[MOST_LOTS];
        final boolean[] slipped = new boolean[MOST_LOTS];

        Bill() {
            clear();
        }

        void clear() {
            height = 20;
            count = 0;
            room = 3;
            account = 0;
            costs[COST_LINE] = 1;
            costs[COST_PAGE] = 5;
            costs[COST_PAPER] = 10;
            costs[COST_SLIP] = 8;
            costs[COST_ENTRY] = 2;
        }

        void copyFrom(Bill other) {
            height = other.height;
            count = other.count;
            room = other.room;
            account = other.account;
            System.arraycopy(other.costs, 0, costs, 0, COST_KINDS);
            System.arraycopy(other.lines, 0, lines, 0, MOST_LOTS);
            System.arraycopy(other.estimates, 0, estimates, 0, MOST_LOTS);
            System.arraycopy(other.sellers, 0, sellers, 0, MOST_LOTS);
            // By LANGUAGE.md's rule 4 arraycopy is for arrays of numbers, which these are not.
            for (int i = 0; i < MOST_LOTS; i++) {
                printed[i] = other.printed[i];
                wanted[i] = other.wanted[i];
                slipped[i] = other.slipped[i];
            }
        }

        /** Puts in a lot that is neither printed nor wanted, if there is room for one. */
        void insert(int at, int itsLines, int estimate, int seller) {
            if (count >= MOST_LOTS || at < 0 || at > count) {
                return;
            }
            for (int i = count; i > at; i--) {
                moveOneFurther(i - 1);
            }
            lines[at] = itsLines;
            estimates[at] = estimate;
            sellers[at] = seller;
            printed[at] = false;
            wanted[at] = false;
            slipped[at] = false;
            count++;
        }

        private void moveOneFurther(int i) {
            if (i < 0 || i + 1 >= MOST_LOTS) {
                return;
            }
            lines[i + 1] = lines[i];
            estimates[i + 1] = estimates[i];
            sellers[i + 1] = sellers[i];
            printed[i + 1] = printed[i];
            wanted[i + 1] = wanted[i];
            slipped[i + 1] = slipped[i];
        }

        int mostLines() {
            return Math.min(MOST_LINES, height);
        }

        boolean isDifferent(int lot) {
            return printed[lot] != wanted[lot];
        }

        void setAnew(int lot) {
            printed[lot] = wanted[lot];
            slipped[lot] = false;
        }

        int wantedLots() {
            int n = 0;
            for (int i = 0; i < count; i++) {
                if (wanted[i]) {
                    n++;
                }
            }
            return n;
        }

        int slippedLots() {
            int n = 0;
            for (int i = 0; i < count; i++) {
                if (slipped[i]) {
                    n++;
                }
            }
            return n;
        }

        int differentLots() {
            int n = 0;
            for (int i = 0; i < count; i++) {
                if (isDifferent(i)) {
                    n++;
                }
            }
            return n;
        }

        int wantedEstimates() {
            int sum = 0;
            for (int i = 0; i < count; i++) {
                if (wanted[i]) {
                    sum += estimates[i];
                }
            }
            return sum;
        }

        int wantedLotsOf(int seller) {
            int n = 0;
            for (int i = 0; i < count; i++) {
                if (sellers[i] == seller && wanted[i]) {
                    n++;
                }
            }
            return n;
        }

        int wantedEstimatesOf(int seller) {
            int sum = 0;
            for (int i = 0; i < count; i++) {
                if (sellers[i] == seller && wanted[i]) {
                    sum += estimates[i];
                }
            }
            return sum;
        }

        int printedLinesOf(int seller) {
            int sum = 0;
            for (int i = 0; i < count; i++) {
                if (sellers[i] == seller && printed[i]) {
                    sum += lines[i];
                }
            }
            return sum;
        }

        /** How many wanted lots come ahead of this one in the order of dearness. */
        int dearerLots(int lot) {
            int n = 0;
            for (int i = 0; i < count; i++) {
                boolean dearer = estimates[i] > estimates[lot] || (estimates[i] == estimates[lot] && i < lot);
                if (wanted[i] && dearer) {
                    n++;
                }
            }
            return n;
        }
    }

    /** The bills as they were ahead of the latest changes, in a ring that is made once. */
    private static final class History {
        private final Bill[] past = new Bill[MOST_CHANGES];
        private int next;
        private int kept;

        History() {
            for (int i = 0; i < MOST_CHANGES; i++) {
                past[i] = new Bill();
            }
        }

        void remember(Bill bill) {
            if (next < 0 || next >= MOST_CHANGES) {
                return;
            }
            Bill oldest = past[next];
            if (oldest == null) {
                return;
            }
            oldest.copyFrom(bill);
            next = next == MOST_CHANGES - 1 ? 0 : next + 1;
            kept = Math.min(kept + 1, MOST_CHANGES);
        }

        /** Returns how many changes can still be undone, or -1 if there is none to undo. */
        int bringBack(Bill bill) {
            int latest = next == 0 ? MOST_CHANGES - 1 : next - 1;
            if (kept <= 0 || latest < 0 || latest >= MOST_CHANGES) {
                return -1;
            }
            Bill before = past[latest];
            if (before == null) {
                return -1;
            }
            bill.copyFrom(before);
            next = latest;
            kept--;
            return kept;
        }
    }

    /** Where printed lots stand. Pages are filled from the top, so the lines in use tell the blank ones. */
    private static final class Layout {
        final int[] numberOf = new int[MOST_LOTS];
        final int[] pageOf = new int[MOST_LOTS];
        final int[] lineOf = new int[MOST_LOTS];
        final int[] usedOn = new int[MOST_LOTS];
        final int[] lotsOn = new int[MOST_LOTS];
        final int[] firstOn = new int[MOST_LOTS];
        int pages;
        int printedLots;
        int printedLines;

        void lay(Bill bill, boolean[] printed) {
            pages = 0;
            printedLots = 0;
            printedLines = 0;
            for (int i = 0; i < bill.count && i < printed.length; i++) {
                if (printed[i]) {
                    place(i, bill.lines[i], bill.height);
                } else {
                    leaveOut(i);
                }
            }
        }

        private void leaveOut(int lot) {
            numberOf[lot] = 0;
            pageOf[lot] = -1;
            lineOf[lot] = -1;
        }

        private void place(int lot, int lines, int height) {
            boolean roomHere = pages > 0 && usedOn[pages - 1] + lines <= height;
            // Each page has a lot at least, so there are never more pages than lots.
            if (!roomHere && pages < MOST_LOTS) {
                usedOn[pages] = 0;
                lotsOn[pages] = 0;
                firstOn[pages] = lot;
                pages++;
            }
            int page = pages - 1;
            printedLots++;
            printedLines += lines;
            numberOf[lot] = printedLots;
            pageOf[lot] = page;
            lineOf[lot] = usedOn[page];
            usedOn[page] += lines;
            lotsOn[page]++;
        }

        int gatherings() {
            return (pages + GATHERING - 1) / GATHERING;
        }

        int linesUsedOn(int page) {
            return page >= 0 && page < pages ? usedOn[page] : 0;
        }

        int blankLinesAheadOfLastPage(int height) {
            int blank = 0;
            for (int p = 0; p < pages - 1; p++) {
                blank += height - usedOn[p];
            }
            return blank;
        }
    }

    /** The different lots, and what it costs to set some of them anew and to tell the others by slips. */
    private static final class Choices {
        static final int COSTS = 0;
        static final int CHANGED_LINES = 1;
        static final int CHANGED_PAGES = 2;
        static final int CHANGED_GATHERINGS = 3;
        static final int SLIPS = 4;
        static final int ENTRIES = 5;
        static final int PAGES_BEHIND = 6;
        static final int FIGURES = 7;

        final int[] lots = new int[MOST_DIFFERENT];
        final int[] figures = new int[FIGURES];
        int count;
        private final Layout behind = new Layout();
        private final boolean[] printedBehind = new boolean[MOST_LOTS];
        private final int[] changedOn = new int[MOST_LOTS];
        private final int[] prices = new int[MOST_CHOICES];
        private boolean priced;

        void listFor(Bill bill) {
            count = 0;
            priced = false;
            for (int i = 0; i < bill.count; i++) {
                if (bill.isDifferent(i) && count < MOST_DIFFERENT) {
                    lots[count] = i;
                    count++;
                }
            }
        }

        boolean has(int choice) {
            return choice >= 0 && choice < 1 << count;
        }

        boolean holds(int choice, int j) {
            return (choice >> j & 1) == 1;
        }

        /** The j of a different lot; -1 for any other lot. */
        int placeOf(int lot) {
            for (int j = 0; j < count; j++) {
                if (lots[j] == lot) {
                    return j;
                }
            }
            return -1;
        }

        int priceOf(int choice) {
            return choice >= 0 && choice < MOST_CHOICES ? prices[choice] : 0;
        }

        /** The best one of the choices that have these bits under the mask. */
        int cheapest(Bill bill, Layout ahead, int mask, int bits) {
            priceAll(bill, ahead);
            int best = -1;
            for (int c = 0; c < 1 << count; c++) {
                if ((c & mask) == bits && (best < 0 || priceOf(c) < priceOf(best))) {
                    best = c;
                }
            }
            return best;
        }

        private void priceAll(Bill bill, Layout ahead) {
            if (priced) {
                return;
            }
            for (int c = 0; c < 1 << count && c < MOST_CHOICES; c++) {
                measure(bill, ahead, c);
                prices[c] = figures[COSTS];
            }
            priced = true;
        }

        /** Fills the figures for a choice, ahead being the layout of the bill as it is. */
        void measure(Bill bill, Layout ahead, int choice) {
            for (int i = 0; i < MOST_LOTS; i++) {
                printedBehind[i] = bill.printed[i];
            }
            figures[ENTRIES] = 0;
            for (int j = 0; j < count; j++) {
                int lot = lots[j];
                if (holds(choice, j)) {
                    printedBehind[lot] = bill.wanted[lot];
                } else if (!bill.slipped[lot]) {
                    figures[ENTRIES]++;
                }
            }
            behind.lay(bill, printedBehind);
            int pages = Math.max(ahead.pages, behind.pages);
            findChangedLines(bill, ahead, pages);
            countChanged(pages);
            figures[SLIPS] = slipsFor(figures[ENTRIES], bill.room);
            figures[PAGES_BEHIND] = behind.pages;
            figures[COSTS] = figures[CHANGED_LINES] * bill.costs[COST_LINE]
                    + figures[CHANGED_PAGES] * bill.costs[COST_PAGE]
                    + figures[CHANGED_GATHERINGS] * bill.costs[COST_PAPER]
                    + figures[SLIPS] * bill.costs[COST_SLIP]
                    + figures[ENTRIES] * bill.costs[COST_ENTRY];
        }

        /**
         * Of a page, all lines in use ahead or behind are changed but those of lots that keep their place;
         * of such a lot the first line is changed all the same if its number is another one.
         */
        private void findChangedLines(Bill bill, Layout ahead, int pages) {
            for (int p = 0; p < pages && p < MOST_LOTS; p++) {
                changedOn[p] = Math.max(ahead.linesUsedOn(p), behind.linesUsedOn(p));
            }
            for (int i = 0; i < bill.count; i++) {
                int page = behind.pageOf[i];
                boolean keepsPlace = page == ahead.pageOf[i] && behind.lineOf[i] == ahead.lineOf[i];
                if (keepsPlace && page >= 0 && page < MOST_LOTS) {
                    boolean keepsNumber = behind.numberOf[i] == ahead.numberOf[i];
                    changedOn[page] -= keepsNumber ? bill.lines[i] : bill.lines[i] - 1;
                }
            }
        }

        private void countChanged(int pages) {
            int lines = 0;
            int changedPages = 0;
            int gatherings = 0;
            int latestGathering = -1;
            for (int p = 0; p < pages && p < MOST_LOTS; p++) {
                if (changedOn[p] > 0) {
                    lines += changedOn[p];
                    changedPages++;
                    if (p / GATHERING != latestGathering) {
                        latestGathering = p / GATHERING;
                        gatherings++;
                    }
                }
            }
            figures[CHANGED_LINES] = lines;
            figures[CHANGED_PAGES] = changedPages;
            figures[CHANGED_GATHERINGS] = gatherings;
        }

        private static int slipsFor(int entries, int room) {
            return room < 1 ? 0 : (entries + room - 1) / room;
        }
    }

    /** The input buffer, and the reader of the setup text in it. */
    private static final class SetupText {
        private static final int END = -1;

        int size;
        int errorAt = -1;
        private final byte[] bytes = new byte[MOST_BYTES];
        private int length;
        private int at;
        private int error;
        private boolean costsRead;
        private boolean slipRead;

        boolean hasRoomFor(int more) {
            return size + more <= MOST_BYTES;
        }

        void putWord(int word) {
            for (int shift = 24; shift >= 0; shift -= 8) {
                if (size >= 0 && size < MOST_BYTES) {
                    bytes[size] = (byte) (word >>> shift);
                    size++;
                }
            }
        }

        /** Reads the first bytes and empties the buffer; returns 0 or the code of the first error. */
        int readInto(Bill bill, int textLength) {
            begin(textLength);
            bill.clear();
            readHead(bill);
            // A statement has a byte at least, so there are never more of them than bytes.
            for (int n = 0; n < MOST_BYTES && error == 0 && next() != END; n++) {
                readStatement(bill);
                takeSemicolon();
            }
            size = 0;
            return error;
        }

        private void begin(int textLength) {
            length = Math.min(textLength, size);
            at = 0;
            error = 0;
            errorAt = -1;
            costsRead = false;
            slipRead = false;
        }

        private void readHead(Bill bill) {
            if (!nextIsWord("bill")) {
                fail(SYNTAX_ERROR);
            }
            at += 4;
            bill.height = takeNumber(LEAST_HEIGHT, MOST_HEIGHT);
            takeSemicolon();
        }

        private void readStatement(Bill bill) {
            if (nextIsWord("lot")) {
                readLot(bill);
            } else if (nextIsWord("costs") && !costsRead) {
                readCosts(bill);
            } else if (nextIsWord("slip") && !slipRead) {
                readSlip(bill);
            } else {
                fail(SYNTAX_ERROR);
            }
        }

        private void readLot(Bill bill) {
            if (bill.count >= MOST_LOTS) {
                fail(TOO_MANY);
                return;
            }
            at += 3;
            int lines = takeNumber(1, bill.mostLines());
            int estimate = takeNumber(0, MOST_ESTIMATE);
            int seller = takeNumber(0, MOST_SELLER);
            boolean out = nextIsWord("out");
            boolean in = nextIsWord("in");
            if ((out || in) && bill.differentLots() >= MOST_DIFFERENT) {
                fail(TOO_MANY);
            }
            if (error != 0) {
                return;
            }
            at += out ? 3 : in ? 2 : 0;
            int lot = bill.count;
            bill.insert(lot, lines, estimate, seller);
            bill.printed[lot] = !in;
            bill.wanted[lot] = !out;
        }

        private void readCosts(Bill bill) {
            costsRead = true;
            at += 5;
            for (int which = 0; which < COST_KINDS; which++) {
                bill.costs[which] = takeNumber(0, MOST_COST);
            }
        }

        private void readSlip(Bill bill) {
            slipRead = true;
            at += 4;
            bill.room = takeNumber(1, MOST_ROOM);
        }

        /** An error behind another one does not count. */
        private void fail(int code) {
            if (error == 0) {
                error = code;
                errorAt = at;
            }
        }

        private void takeSemicolon() {
            if (next() != ';') {
                fail(SYNTAX_ERROR);
            }
            at++;
        }

        private int takeNumber(int least, int most) {
            if (!isDigit(next())) {
                fail(SYNTAX_ERROR);
                return least;
            }
            int end = at;
            int value = 0;
            while (end < length && isDigit(byteAt(end))) {
                // A number of any length must not wrap around; beyond this it is too great everywhere.
                value = Math.min(10 * value + byteAt(end) - '0', MOST_ESTIMATE + 1);
                end++;
            }
            if (value < least || value > most) {
                fail(OUT_OF_RANGE);
            }
            at = end;
            return value;
        }

        private boolean nextIsWord(String word) {
            next();
            for (int i = 0; i < word.length(); i++) {
                if (byteAt(at + i) != word.charAt(i)) {
                    return false;
                }
            }
            return !isLetter(byteAt(at + word.length()));
        }

        /** Goes to the first byte of the next token and returns it; END behind the last one. */
        private int next() {
            while (at < length && byteAt(at) == ' ') {
                at++;
            }
            return byteAt(at);
        }

        private int byteAt(int i) {
            return i >= 0 && i < length && i < MOST_BYTES ? bytes[i] & 255 : END;
        }

        private static boolean isDigit(int b) {
            return b >= '0' && b <= '9';
        }

        private static boolean isLetter(int b) {
            return b >= 'a' && b <= 'z';
        }
    }
}
