/** Promises 15 to 17: undo and the snapshot. */
public final class HistoryTest {
    private static final Due due = new Due();

    public static void main(String[] args) {
        undoRemovesTheLatest();
        historyDropsTheOldest();
        undoBringsAllBack();
        whatIsNoActIsNotRecorded();
        keepTakesASnapshot();
        restoreIsAnAct();
        restoreBringsAllBack();
        due.end();
    }

    private static void undoRemovesTheLatest() {
        due.of(15);
        InvoiceBook book = new InvoiceBook();
        due.is("empty", book.undo(), -5);
        book.pass(1);
        book.pass(2);
        due.is("undo", book.undo(), 1);
        due.is("day", book.count(0), 1);
        due.is("undo", book.undo(), 0);
        due.is("day", book.count(0), 0);
        due.is("empty", book.undo(), -5);
        book.pass(3);
        due.is("recorded again", book.undo(), 0);
        due.is("day", book.count(0), 0);
    }

    private static void historyDropsTheOldest() {
        due.of(15);
        InvoiceBook book = new InvoiceBook();
        for (int acts = 1; acts <= 11; acts++) {
            book.pass(1);
            due.is("states", book.count(20), Math.min(acts, 4));
        }
        for (int left = 3; left >= 0; left--) {
            due.is("undo", book.undo(), left);
            due.is("day", book.count(0), 7 + left);
        }
        due.is("empty", book.undo(), -5);
        due.is("day", book.count(0), 7);
        for (int times = 0; times < 20; times++) {
            int day = book.count(0);
            for (int acts = 0; acts < times % 6; acts++) {
                book.pass(1);
            }
            for (int acts = Math.min(4, times % 6); acts > 0; acts--) {
                due.is("day", book.count(0), day + acts + Math.max(0, times % 6 - 4));
                due.is("undo", book.undo(), acts - 1);
            }
        }
    }

    private static void undoBringsAllBack() {
        due.of(15);
        InvoiceBook book = Books.withThreeReminders();
        book.pay(4, 77);
        Books.passTo(book, 100);
        Books.type(book, "r");
        book.closeYear(0);
        due.is("undo", book.undo(), 3);
        due.is("closed years", book.count(14), 0);
        due.is("not closed", book.tax(0, 2), -5);
        book.payBack(4);
        book.undo();
        due.is("credit", book.customer(4, 3), 77);
        due.is("paid back", book.count(10), 0);
        book.writeOff(0);
        book.undo();
        due.is("open", book.billOf(0, 6), 0);
        book.payBill(0, 60);
        due.is("tax paid", book.tax(1, 1), 10);
        book.undo();
        due.is("tax paid", book.tax(1, 1), 0);
        due.bill(book, 0, 2, 100, 20, 120, 0, 5, 0, 0, 0, 15, 135, 3, -5, 1);
        book.set(2, 8);
        book.undo();
        due.is("setting", book.count(17), 7);
        book.bill(0, 1, 0, 0);
        book.undo();
        due.is("bills", book.count(1), 1);
        due.is("no such bill", book.billOf(1, 0), -1);
        due.is("text stays", book.count(21), 1);
    }

    private static void whatIsNoActIsNotRecorded() {
        due.of(15);
        InvoiceBook book = new InvoiceBook();
        book.bill(0, 100, 20, 14);
        int[] none = {
            book.type('r'), book.stopped(0), book.keep(), book.clearText(), book.billOf(0, 0), book.customer(0, 0),
            book.tax(0, 0), book.reason(0), book.ifPaid(0, 50, 2), book.settles(0), book.nextReminder(0),
            book.worst(), book.count(0), book.bill(9, 1, 1, 1), book.pay(0, 0), book.payBill(0, 0),
            book.payBack(0), book.pass(0), book.remind(), book.writeOff(0), book.closeYear(0), book.set(0, 10),
            book.perform()
        };
        due.is("calls", none.length, 23);
        due.is("states", book.count(20), 1);
        due.is("undo", book.undo(), 0);
        due.is("bills", book.count(1), 0);
    }

    private static void keepTakesASnapshot() {
        due.of(16);
        InvoiceBook book = new InvoiceBook();
        due.is("keep", book.keep(), 0);
        due.is("states", book.count(20), 0);
        book.pass(9);
        due.is("restore", book.restore(), 0);
        book.pass(5);
        due.is("keep in its place", book.keep(), 5);
        book.pass(6);
        due.is("restore", book.restore(), 5);
        book.undo();
        book.undo();
        due.is("undo leaves the snapshot", book.restore(), 5);
    }

    private static void restoreIsAnAct() {
        due.of(17);
        InvoiceBook book = new InvoiceBook();
        book.pass(1);
        due.is("no snapshot", book.restore(), -5);
        due.is("states", book.count(20), 1);
        book.keep();
        book.pass(3);
        due.is("restore", book.restore(), 1);
        due.is("states", book.count(20), 3);
        due.is("restore, it stays", book.restore(), 1);
        due.is("states", book.count(20), 4);
        book.undo();
        due.is("day", book.count(0), 1);
        book.undo();
        due.is("day", book.count(0), 4);
        due.is("restore", book.restore(), 1);
    }

    private static void restoreBringsAllBack() {
        due.of(17);
        InvoiceBook book = new InvoiceBook();
        book.bill(0, 100, 20, 14);
        book.pay(0, 20);
        book.pay(1, 30);
        book.set(3, 6);
        Books.type(book, "r");
        book.keep();
        book.payBack(1);
        book.pay(0, 50);
        book.set(3, 7);
        book.bill(5, 100, 20, 14);
        Books.passTo(book, 100);
        book.closeYear(0);
        Books.type(book, "r;r");
        due.is("restore", book.restore(), 0);
        due.count(book, 0, 1, 1, 0, 0, 0, 100, 0, 30, 50, 0, 0, 0, 0, 0, 10, 2, 7, 6, 0, 4, 3);
        due.bill(book, 0, 0, 100, 20, 120, 0, 14, 0, 20, 0, 0, 100, 0, 0, 0);
        due.is("tax", book.tax(0, 1), 3);
        due.is("not closed", book.tax(0, 2), -5);
        due.is("the second bill is gone", book.billOf(1, 0), -1);
        book.pay(0, 60);
        due.is("restore", book.restore(), 0);
        due.is("owed", book.billOf(0, 10), 100);
    }
}
