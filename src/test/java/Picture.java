import java.util.ArrayList;
import java.util.List;

/** All that a book tells, as lines: its state, its text's length, its latest stop, its history, its snapshot. */
final class Picture {
    /** More bills than these at each end would take more calls than an object is promised for. */
    private static final int BILLS_AT_EACH_END = 3;

    private final InvoiceBook book;
    private final List<String> lines = new ArrayList<>();

    private Picture(InvoiceBook book) {
        this.book = book;
    }

    /** The book is used up by this: its history is taken down, and its snapshot stands in the end. */
    static List<String> of(InvoiceBook book) {
        Picture picture = new Picture(book);
        picture.told();
        picture.bills();
        picture.customers();
        picture.taxes();
        picture.history();
        return picture.lines;
    }

    /** Answers the first line that is not the same, or null. */
    static String difference(List<String> got, List<String> want) {
        for (int i = 0; i < Math.max(got.size(), want.size()); i++) {
            String one = i < got.size() ? got.get(i) : "nothing";
            String other = i < want.size() ? want.get(i) : "nothing";
            if (!one.equals(other)) {
                return "is " + one + ", due is " + other;
            }
        }
        return null;
    }

    private void add(String call, int answer) {
        lines.add(call + " = " + answer);
    }

    private void told() {
        for (int what = 0; what <= 21; what++) {
            add("count(" + what + ")", book.count(what));
        }
        add("stopped(0)", book.stopped(0));
        add("stopped(1)", book.stopped(1));
        add("worst()", book.worst());
    }

    private void bills() {
        int bills = book.count(1);
        for (int bill = 0; bill < bills; bill++) {
            if (bill < BILLS_AT_EACH_END || bill >= bills - BILLS_AT_EACH_END) {
                for (int what = 0; what <= 13; what++) {
                    add("billOf(" + bill + ", " + what + ")", book.billOf(bill, what));
                }
                add("reason(" + bill + ")", book.reason(bill));
                add("nextReminder(" + bill + ")", book.nextReminder(bill));
            }
        }
        add("billOf(" + bills + ", 0)", book.billOf(bills, 0));
    }

    private void customers() {
        for (int customer = 0; customer < 8; customer++) {
            for (int what = 0; what <= 6; what++) {
                add("customer(" + customer + ", " + what + ")", book.customer(customer, what));
            }
            add("settles(" + customer + ")", book.settles(customer));
        }
    }

    private void taxes() {
        for (int year = 0; year <= 2; year++) {
            for (int way = 0; way <= 2; way++) {
                add("tax(" + year + ", " + way + ")", book.tax(year, way));
            }
        }
    }

    private void history() {
        for (int left = book.count(20); left > 0; left--) {
            add("undo()", book.undo());
            state("undo");
        }
        add("undo()", book.undo());
        add("restore()", book.restore());
        state("restore");
    }

    private void state(String call) {
        for (int what = 0; what <= 19; what++) {
            add("count(" + what + ") behind " + call, book.count(what));
        }
    }
}
