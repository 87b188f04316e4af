import java.math.BigInteger;
import java.util.ArrayDeque;
import java.util.ArrayList;
import java.util.Arrays;
import java.util.Comparator;
import java.util.Deque;
import java.util.List;
import java.util.NoSuchElementException;
import java.util.regex.Matcher;
import java.util.regex.Pattern;

/**
 * The document once more, told another way: pages are grids of texts that are compared line by line,
 * nothing is kept that can be found anew. It has the same methods as LotSheet.
 */
final class Model {
    static final class Lot {
        int lines;
        int estimate;
        int seller;
        boolean printed;
        boolean wanted;
        boolean slipped;

        Lot copy() {
            Lot c = new Lot();
            c.lines = lines;
            c.estimate = estimate;
            c.seller = seller;
            c.printed = printed;
            c.wanted = wanted;
            c.slipped = slipped;
            return c;
        }
    }

    static final class Data {
        int height = 20;
        int room = 3;
        int account;
        int[] costs = {1, 5, 10, 8, 2};
        List<Lot> lots = new ArrayList<>();

        Data copy() {
            Data c = new Data();
            c.height = height;
            c.room = room;
            c.account = account;
            c.costs = costs.clone();
            for (Lot l : lots) {
                c.lots.add(l.copy());
            }
            return c;
        }
    }

    private static final class SetupError extends Exception {
        private static final long serialVersionUID = 1;
        final int code;
        final int offset;

        SetupError(int code, int offset) {
            this.code = code;
            this.offset = offset;
        }
    }

    private Data d = new Data();
    private final Deque<Data> past = new ArrayDeque<>();
    private final StringBuilder buffer = new StringBuilder();
    private int errorOffset = -1;

    // ---- setup text

    private static final class Parser {
        final List<String> tokens = new ArrayList<>();
        final List<Integer> offsets = new ArrayList<>();
        int at;

        Parser(String text) {
            Matcher m = Pattern.compile("[0-9]+|[a-z]+| +|.", Pattern.DOTALL).matcher(text);
            while (m.find()) {
                if (m.group().charAt(0) != ' ') {
                    tokens.add(m.group());
                    offsets.add(m.start());
                }
            }
            tokens.add("");
            offsets.add(text.length());
        }

        boolean is(String token) {
            return tokens.get(at).equals(token);
        }

        SetupError error(int code) {
            return new SetupError(code, offsets.get(at));
        }

        void take(String token) throws SetupError {
            if (!is(token)) {
                throw error(-2);
            }
            at++;
        }

        int number(int least, int most) throws SetupError {
            if (!tokens.get(at).matches("[0-9]+")) {
                throw error(-2);
            }
            BigInteger n = new BigInteger(tokens.get(at));
            if (n.compareTo(BigInteger.valueOf(least)) < 0 || n.compareTo(BigInteger.valueOf(most)) > 0) {
                throw error(-3);
            }
            at++;
            return n.intValueExact();
        }

        Data parse() throws SetupError {
            Data r = new Data();
            take("bill");
            r.height = number(4, 40);
            take(";");
            boolean costs = false;
            boolean slip = false;
            while (!is("")) {
                if (is("lot")) {
                    lot(r);
                } else if (is("costs") && !costs) {
                    costs = true;
                    at++;
                    for (int i = 0; i < 5; i++) {
                        r.costs[i] = number(0, 99);
                    }
                } else if (is("slip") && !slip) {
                    slip = true;
                    at++;
                    r.room = number(1, 9);
                } else {
                    throw error(-2);
                }
                take(";");
            }
            return r;
        }

        void lot(Data r) throws SetupError {
            if (r.lots.size() == 24) {
                throw error(-4);
            }
            at++;
            Lot l = new Lot();
            l.lines = number(1, Math.min(9, r.height));
            l.estimate = number(0, 9999);
            l.seller = number(0, 9);
            l.printed = !is("in");
            l.wanted = !is("out");
            if (l.printed != l.wanted) {
                if (r.lots.stream().filter(o -> o.printed != o.wanted).count() == 8) {
                    throw error(-4);
                }
                at++;
            }
            r.lots.add(l);
        }
    }

    // ---- what is found anew each time

    private List<Integer> differentLots() {
        List<Integer> r = new ArrayList<>();
        for (int i = 0; i < d.lots.size(); i++) {
            if (d.lots.get(i).printed != d.lots.get(i).wanted) {
                r.add(i);
            }
        }
        return r;
    }

    private boolean[] printedBehind(int choice) {
        boolean[] r = new boolean[d.lots.size()];
        List<Integer> diff = differentLots();
        for (int i = 0; i < r.length; i++) {
            Lot l = d.lots.get(i);
            int j = diff.indexOf(i);
            r[i] = j >= 0 && (choice & 1 << j) != 0 ? l.wanted : l.printed;
        }
        return r;
    }

    private boolean[] printedNow() {
        boolean[] r = new boolean[d.lots.size()];
        for (int i = 0; i < r.length; i++) {
            r[i] = d.lots.get(i).printed;
        }
        return r;
    }

    /** Lines as "lot/line" and, on a first line, "#number"; pages without blank lines at their ends. */
    private List<List<String>> pagesOf(boolean[] printed) {
        List<List<String>> pages = new ArrayList<>();
        int number = 0;
        for (int i = 0; i < printed.length; i++) {
            if (!printed[i]) {
                continue;
            }
            int lines = d.lots.get(i).lines;
            if (pages.isEmpty() || d.height - pages.get(pages.size() - 1).size() < lines) {
                pages.add(new ArrayList<>());
            }
            number++;
            for (int k = 0; k < lines; k++) {
                pages.get(pages.size() - 1).add(i + "/" + k + (k == 0 ? "#" + number : ""));
            }
        }
        return pages;
    }

    private static String lineOf(List<List<String>> pages, int page, int line) {
        return page < pages.size() && line < pages.get(page).size() ? pages.get(page).get(line) : "";
    }

    private int[] figures(int choice) {
        List<List<String>> ahead = pagesOf(printedNow());
        List<List<String>> behind = pagesOf(printedBehind(choice));
        int lines = 0;
        int pages = 0;
        int gatherings = 0;
        for (int g = 0; g < 6; g++) {
            boolean gathering = false;
            for (int p = 4 * g; p < 4 * g + 4; p++) {
                boolean page = false;
                for (int l = 0; l < d.height; l++) {
                    if (!lineOf(ahead, p, l).equals(lineOf(behind, p, l))) {
                        lines++;
                        page = true;
                    }
                }
                pages += page ? 1 : 0;
                gathering |= page;
            }
            gatherings += gathering ? 1 : 0;
        }
        int entries = 0;
        List<Integer> diff = differentLots();
        for (int j = 0; j < diff.size(); j++) {
            if ((choice & 1 << j) == 0 && !d.lots.get(diff.get(j)).slipped) {
                entries++;
            }
        }
        int slips = (int) Math.ceil((double) entries / d.room);
        int costs = lines * d.costs[0] + pages * d.costs[1] + gatherings * d.costs[2]
                + slips * d.costs[3] + entries * d.costs[4];
        return new int[] {costs, lines, pages, gatherings, slips, entries, behind.size()};
    }

    private int bestWhere(int mask, int bits) {
        int best = -1;
        int least = Integer.MAX_VALUE;
        for (int c = (1 << differentLots().size()) - 1; c >= 0; c--) {
            if ((c & mask) == bits) {
                int costs = figures(c)[0];
                if (costs <= least) {
                    least = costs;
                    best = c;
                }
            }
        }
        return best;
    }

    private void remember() {
        past.addLast(d.copy());
        if (past.size() > 8) {
            past.removeFirst();
        }
    }

    private Lot lotAt(int i) {
        if (i < 0 || i >= d.lots.size()) {
            throw new IndexOutOfBoundsException();
        }
        return d.lots.get(i);
    }

    private static void need(boolean ok) {
        if (!ok) {
            throw new IllegalArgumentException();
        }
    }

    private int[] placeOf(int lot) {
        List<List<String>> pages = pagesOf(printedNow());
        for (int p = 0; p < pages.size(); p++) {
            for (int l = 0; l < pages.get(p).size(); l++) {
                String s = pages.get(p).get(l);
                if (s.startsWith(lot + "/0#")) {
                    return new int[] {Integer.parseInt(s.substring(s.indexOf('#') + 1)), p, l};
                }
            }
        }
        return new int[] {0, -1, -1};
    }

    // ---- the face

    public int append(int w0, int w1, int w2, int w3, int w4) {
        if (buffer.length() > 480) {
            return -1;
        }
        for (int w : new int[] {w0, w1, w2, w3, w4}) {
            for (int i = 3; i >= 0; i--) {
                buffer.append((char) (w >> 8 * i & 255));
            }
        }
        return buffer.length();
    }

    public int load(int length) {
        need(length >= 0 && length <= buffer.length());
        String text = buffer.substring(0, length);
        buffer.setLength(0);
        try {
            Data read = new Parser(text).parse();
            remember();
            d = read;
            errorOffset = -1;
            return d.lots.size();
        } catch (SetupError e) {
            errorOffset = e.offset;
            return e.code;
        }
    }

    public int errorOffset() {
        return errorOffset;
    }

    public int state(int what) {
        need(what >= 0 && what <= 11);
        List<List<String>> pages = pagesOf(printedNow());
        int blank = 0;
        for (int p = 0; p + 1 < pages.size(); p++) {
            blank += d.height - pages.get(p).size();
        }
        return new int[] {
            d.height, d.lots.size(),
            (int) d.lots.stream().filter(l -> l.printed).count(),
            (int) d.lots.stream().filter(l -> l.wanted).count(),
            differentLots().size(),
            (int) d.lots.stream().filter(l -> l.slipped).count(),
            pages.size(), (int) Math.ceil(pages.size() / 4.0), d.account,
            d.lots.stream().filter(l -> l.wanted).mapToInt(l -> l.estimate).sum(),
            blank, d.room}[what];
    }

    public int lot(int lot, int what) {
        Lot l = lotAt(lot);
        need(what >= 0 && what <= 8);
        int[] place = placeOf(lot);
        return new int[] {l.lines, l.estimate, l.seller, l.printed ? 1 : 0, l.wanted ? 1 : 0,
            l.slipped ? 1 : 0, place[0], place[1], place[2]}[what];
    }

    public int page(int page, int what) {
        List<List<String>> pages = pagesOf(printedNow());
        if (page < 0 || page >= pages.size()) {
            throw new IndexOutOfBoundsException();
        }
        need(what >= 0 && what <= 3);
        List<Integer> lots = new ArrayList<>();
        for (String s : pages.get(page)) {
            if (s.contains("#")) {
                lots.add(Integer.parseInt(s.substring(0, s.indexOf('/'))));
            }
        }
        int estimates = lots.stream().filter(i -> d.lots.get(i).wanted).mapToInt(i -> d.lots.get(i).estimate).sum();
        return new int[] {lots.size(), lots.get(0), d.height - pages.get(page).size(), estimates}[what];
    }

    public int standing(int page, int line) {
        List<List<String>> pages = pagesOf(printedNow());
        if (page < 0 || page >= pages.size()) {
            throw new IndexOutOfBoundsException();
        }
        need(line >= 0 && line < d.height);
        String s = lineOf(pages, page, line);
        if (s.isEmpty()) {
            return -1;
        }
        String[] parts = s.split("[/#]");
        return 10 * Integer.parseInt(parts[0]) + Integer.parseInt(parts[1]);
    }

    public int numbered(int number) {
        for (List<String> page : pagesOf(printedNow())) {
            for (String s : page) {
                if (s.endsWith("#" + number)) {
                    return Integer.parseInt(s.substring(0, s.indexOf('/')));
                }
            }
        }
        throw new NoSuchElementException();
    }

    public int different(int j) {
        List<Integer> diff = differentLots();
        if (j < 0 || j >= diff.size()) {
            throw new NoSuchElementException();
        }
        return diff.get(j);
    }

    public int best() {
        return bestWhere(0, 0);
    }

    public int choice(int choice, int what) {
        need(choice >= 0 && choice < 1 << differentLots().size());
        need(what >= 0 && what <= 6);
        return figures(choice)[what];
    }

    public int pays(int lot) {
        lotAt(lot);
        int j = differentLots().indexOf(lot);
        if (j < 0) {
            return 0;
        }
        return figures(bestWhere(1 << j, 1 << j))[0] - figures(bestWhere(1 << j, 0))[0];
    }

    public int dearest(int k) {
        List<Integer> wanted = new ArrayList<>();
        for (int i = 0; i < d.lots.size(); i++) {
            if (d.lots.get(i).wanted) {
                wanted.add(i);
            }
        }
        wanted.sort(Comparator.comparingInt(i -> -d.lots.get(i).estimate));
        if (k < 0 || k >= wanted.size()) {
            throw new NoSuchElementException();
        }
        return wanted.get(k);
    }

    public int seller(int seller, int what) {
        need(seller >= 0 && seller <= 9 && what >= 0 && what <= 2);
        int[] r = new int[3];
        for (Lot l : d.lots) {
            if (l.seller == seller) {
                r[0] += l.wanted ? 1 : 0;
                r[1] += l.wanted ? l.estimate : 0;
                r[2] += l.printed ? l.lines : 0;
            }
        }
        return r[what];
    }

    public int through(int line) {
        List<String> all = new ArrayList<>();
        pagesOf(printedNow()).forEach(all::addAll);
        if (line < 0 || line > 9999 || line >= all.size()) {
            throw new NoSuchElementException();
        }
        String s = all.get(line);
        return Integer.parseInt(s.substring(0, s.indexOf('/')));
    }

    public double filled() {
        List<List<String>> pages = pagesOf(printedNow());
        double lines = pages.stream().mapToInt(List::size).sum();
        return pages.isEmpty() ? 0.0 : lines / (double) (pages.size() * d.height);
    }

    public int withdraw(int lot) {
        return turn(lot, true);
    }

    public int restore(int lot) {
        return turn(lot, false);
    }

    private int turn(int lot, boolean wantedNow) {
        Lot l = lotAt(lot);
        if (l.wanted != wantedNow) {
            throw new IllegalStateException();
        }
        if (l.printed == l.wanted && differentLots().size() == 8) {
            throw new IllegalStateException();
        }
        remember();
        l.wanted = !wantedNow;
        l.slipped &= l.printed != l.wanted;
        return differentLots().size();
    }

    public int add(int at, int lines, int estimate, int seller) {
        need(at >= 0 && at <= d.lots.size());
        need(lines >= 1 && lines <= 9 && lines <= d.height);
        need(estimate >= 0 && estimate <= 9999);
        need(seller >= 0 && seller <= 9);
        if (d.lots.size() == 24 || differentLots().size() == 8) {
            throw new IllegalStateException();
        }
        remember();
        Lot l = new Lot();
        l.lines = lines;
        l.estimate = estimate;
        l.seller = seller;
        l.wanted = true;
        d.lots.add(at, l);
        return d.lots.size();
    }

    public int carry(int choice) {
        List<Integer> diff = differentLots();
        need(choice >= 0 && choice < 1 << diff.size());
        int costs = figures(choice)[0];
        remember();
        for (int j = 0; j < diff.size(); j++) {
            Lot l = d.lots.get(diff.get(j));
            if ((choice & 1 << j) != 0) {
                l.printed = l.wanted;
                l.slipped = false;
            } else {
                l.slipped = true;
            }
        }
        d.account += costs;
        return costs;
    }

    public int press() {
        return carry(best());
    }

    public int setCost(int which, int cost) {
        need(which >= 0 && which <= 4);
        need(cost >= 0 && cost <= 99);
        remember();
        int previous = d.costs[which];
        d.costs[which] = cost;
        return previous;
    }

    public int undo() {
        if (past.isEmpty()) {
            return -1;
        }
        d = past.removeLast();
        return past.size();
    }

    public long checksum() {
        List<Integer> numbers = new ArrayList<>();
        for (int what = 0; what <= 11; what++) {
            numbers.add(state(what));
        }
        for (int i = 0; i < d.lots.size(); i++) {
            for (int what = 0; what <= 8; what++) {
                numbers.add(lot(i, what));
            }
        }
        int best = best();
        numbers.add(best);
        Arrays.stream(figures(best)).forEach(numbers::add);
        long sum = 0;
        for (int n : numbers) {
            sum = 31 * sum + n;
        }
        return sum;
    }
}
