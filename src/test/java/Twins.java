import java.util.ArrayList;
import java.util.List;
import java.util.concurrent.Callable;
import java.util.function.Supplier;

/** Objects made alike, of which one is asked for what the document refuses: they have to stay alike. */
final class Twins {
    private final Check check;

    interface Call {
        Object on(LotSheet x) throws Exception;
    }

    Twins(Check check) {
        this.check = check;
    }

    /** The call throws this very class, and the object is then like one that was never asked. */
    void refuse(String what, Class<? extends Exception> due, Supplier<LotSheet> made, Call call) {
        LotSheet asked = made.get();
        check.raises(what, due, () -> call.on(asked));
        alike("after " + what, asked, made.get());
    }

    /** Both objects are used up by this. */
    void alike(String what, LotSheet got, LotSheet due) {
        sameTold(what, told(got), told(due));
    }

    /** Every question is answered alike, and so are those one beyond; for bills of some four lots. */
    void answerAlike(String what, LotSheet got, LotSheet due) {
        sameTold(what, answers(got), answers(due));
    }

    private void sameTold(String what, List<String> gotTold, List<String> dueTold) {
        for (int i = 0; i < dueTold.size() || i < gotTold.size(); i++) {
            String g = i < gotTold.size() ? gotTold.get(i) : "nothing";
            String d = i < dueTold.size() ? dueTold.get(i) : "nothing";
            if (!g.equals(d)) {
                check.complain(what + ": " + g + ", due is " + d);
                return;
            }
        }
    }

    /** Data, costs, input buffer, error offset and all that undo brings back, in some 330 calls at most. */
    private static List<String> told(LotSheet x) {
        List<String> told = new ArrayList<>();
        told.add("errorOffset() is " + x.errorOffset());
        told.add("checksum() is " + x.checksum());
        int choices = 1 << x.state(4);
        for (int c = 0; c < choices; c++) {
            told.add("choice(" + c + ", 0) is " + x.choice(c, 0));
        }
        for (int which = 0; which < 5; which++) {
            told.add("setCost(" + which + ", 99) is " + x.setCost(which, 99) + ", undo() is " + x.undo());
        }
        int length = x.append(0x20202020, 0x20202020, 0x20202020, 0x20202020, 0x20202020);
        told.add("append() is " + length);
        int left = 0;
        for (int n = 0; n < 10 && left >= 0; n++) {
            left = x.undo();
            told.add("undo() is " + left + ", checksum() is " + x.checksum());
        }
        told.add("load() is " + x.load(length < 0 ? 500 : length) + " at " + x.errorOffset());
        told.add("checksum() is " + x.checksum() + " after load");
        return told;
    }

    private static void ask(List<String> told, String what, Callable<?> call) {
        try {
            told.add(what + " is " + call.call());
        } catch (Exception e) {
            told.add(what + " throws " + e.getClass().getName());
        }
    }

    private static List<String> answers(LotSheet x) {
        List<String> told = new ArrayList<>();
        for (int what = 0; what <= 12; what++) {
            int w = what;
            ask(told, "state(" + w + ")", () -> x.state(w));
        }
        int lots = x.state(1);
        for (int lot = 0; lot <= lots; lot++) {
            int l = lot;
            for (int what = 0; what <= 8; what++) {
                int w = what;
                ask(told, "lot(" + l + ", " + w + ")", () -> x.lot(l, w));
            }
            ask(told, "pays(" + l + ")", () -> x.pays(l));
            ask(told, "numbered(" + l + ")", () -> x.numbered(l));
            ask(told, "different(" + l + ")", () -> x.different(l));
            ask(told, "dearest(" + l + ")", () -> x.dearest(l));
        }
        pageAnswers(told, x);
        int choices = 1 << x.state(4);
        for (int c = 0; c <= choices; c++) {
            for (int what = 0; what <= 6; what++) {
                int choice = c;
                int w = what;
                ask(told, "choice(" + choice + ", " + w + ")", () -> x.choice(choice, w));
            }
        }
        for (int seller = 0; seller <= 9; seller++) {
            told.add("seller " + seller + ": " + x.seller(seller, 0) + ", " + x.seller(seller, 1) + ", "
                    + x.seller(seller, 2));
        }
        told.add("best() is " + x.best() + ", filled() is " + x.filled() + ", checksum() is " + x.checksum());
        return told;
    }

    private static void pageAnswers(List<String> told, LotSheet x) {
        int pages = x.state(6);
        int height = x.state(0);
        for (int page = 0; page <= pages; page++) {
            int p = page;
            for (int what = 0; what <= 3; what++) {
                int w = what;
                ask(told, "page(" + p + ", " + w + ")", () -> x.page(p, w));
            }
            for (int line = 0; line <= height; line++) {
                int l = line;
                ask(told, "standing(" + p + ", " + l + ")", () -> x.standing(p, l));
            }
        }
        for (int line = 0; line <= pages * height; line++) {
            int l = line;
            ask(told, "through(" + l + ")", () -> x.through(l));
        }
    }

    /** Five lots, costs of its own, slipped lots, an account, an error offset, six changes, 20 bytes of text. */
    static LotSheet busy() {
        LotSheet x = Sheets.of("bill 9;costs 2 3 5 7 11;slip 2;"
                + "lot 3 100 1;lot 4 50 2out;lot 5 70 3in;lot 9 1 1;lot 2 60 4;");
        x.carry(0);
        x.withdraw(0);
        x.setCost(4, 13);
        x.withdraw(4);
        x.restore(4);
        Sheets.load(x, "bill 9;lot 0 1 1;");
        Sheets.append(x, "bill 7;lot 1 1 1;");
        return x;
    }

    /** 24 lots, none of them different, on 12 pages. */
    static LotSheet manyLots() {
        return Sheets.of("bill 20;" + "lot 9 9 9;".repeat(24));
    }

    /** 8 different lots: 4 printed ones that are to go, 4 that are to come; then 2 lots that are not different. */
    static LotSheet manyDifferent() {
        return Sheets.of("bill 20;" + "lot 1 1 1out;lot 2 2 2in;".repeat(4) + "lot 3 3 3;lot 4 4 4;");
    }
}
