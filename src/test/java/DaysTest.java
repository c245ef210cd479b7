/** Promises 6 to 10: days, reminders, write-offs, years, settings. */
public final class DaysTest {
    private static final Due due = new Due();

    public static void main(String[] args) {
        passTellsOverdueOnes();
        remindSendsByWeeks();
        remindSendsToSeveral();
        remindTakesTheSettings();
        remindLeavesPaidOnesAlone();
        writeOffNeedsThreeRemindersAndTime();
        closeYearByBills();
        closeYearByPayments();
        closedYearStays();
        setAnswersThePrevious();
        due.end();
    }

    private static void passTellsOverdueOnes() {
        due.of(6);
        InvoiceBook book = new InvoiceBook();
        book.bill(0, 10, 0, 0);
        book.bill(1, 10, 0, 3);
        book.bill(2, 10, 0, 3);
        book.bill(3, 10, 0, 99);
        due.is("pass(1)", book.pass(1), 1);
        due.is("day", book.count(0), 1);
        due.is("pass(2), on the day they are due", book.pass(2), 1);
        due.is("pass(1)", book.pass(1), 3);
        book.pay(1, 10);
        due.is("pass(95)", book.pass(95), 2);
        due.is("day", book.count(0), 99);
        due.is("pass(1)", book.pass(1), 3);
        InvoiceBook other = Books.withWriteOff();
        due.is("written off is not overdue", other.pass(1), 0);
    }

    private static void remindSendsByWeeks() {
        due.of(7);
        InvoiceBook book = new InvoiceBook();
        book.bill(2, 100, 20, 5);
        Books.passTo(book, 11);
        due.is("a day too early", book.remind(), -5);
        due.is("NONE records nothing", book.count(20), 2);
        book.pass(1);
        due.is("first", book.remind(), 1);
        due.bill(book, 0, 2, 100, 20, 120, 0, 5, 0, 0, 0, 0, 120, 1, -5, 1);
        due.is("once a day", book.remind(), -5);
        book.pass(6);
        due.is("too early for the second", book.remind(), -5);
        book.pass(3);
        due.is("second", book.remind(), 1);
        due.bill(book, 0, 2, 100, 20, 120, 0, 5, 0, 0, 0, 5, 125, 2, -5, 1);
        book.pass(6);
        due.is("by the day of the second", book.remind(), -5);
        book.pass(1);
        due.is("third", book.remind(), 1);
        due.bill(book, 0, 2, 100, 20, 120, 0, 5, 0, 0, 0, 15, 135, 3, -5, 1);
        book.pass(99);
        due.is("no fourth", book.remind(), -5);
    }

    private static void remindSendsToSeveral() {
        due.of(7);
        InvoiceBook book = new InvoiceBook();
        due.is("no bill", book.remind(), -5);
        book.bill(0, 100, 0, 0);
        book.bill(1, 100, 0, 1);
        book.bill(2, 100, 0, 0);
        book.pass(7);
        due.is("two of three", book.remind(), 2);
        book.pass(1);
        due.is("the other", book.remind(), 1);
        book.pass(7);
        due.is("all", book.remind(), 3);
        due.is("reminders", book.count(13), 6);
        due.is("fees", book.count(12), 15);
    }

    private static void remindTakesTheSettings() {
        due.of(7);
        InvoiceBook book = new InvoiceBook();
        book.set(2, 1);
        book.set(3, 99);
        book.bill(0, 100, 0, 0);
        due.is("on the day it is due", book.remind(), -5);
        book.pass(1);
        due.is("first", book.remind(), 1);
        book.set(2, 3);
        book.pass(2);
        due.is("too early", book.remind(), -5);
        book.pass(1);
        due.is("second", book.remind(), 1);
        due.is("fees", book.billOf(0, 9), 99);
        book.set(3, 10);
        book.pass(3);
        due.is("third", book.remind(), 1);
        due.is("fees", book.billOf(0, 9), 119);
    }

    private static void remindLeavesPaidOnesAlone() {
        due.of(7);
        InvoiceBook book = new InvoiceBook();
        book.bill(0, 100, 0, 0);
        book.pay(0, 98);
        book.pass(50);
        due.is("paid", book.remind(), -5);
        InvoiceBook other = Books.withWriteOff();
        other.pass(50);
        due.is("written off", other.remind(), -5);
        due.is("reminders", other.billOf(0, 11), 3);
    }

    private static void writeOffNeedsThreeRemindersAndTime() {
        due.of(8);
        InvoiceBook book = new InvoiceBook();
        book.bill(2, 100, 20, 5);
        book.payBill(0, 20);
        for (int day = 12; day <= 26; day += 7) {
            due.is("too few reminders", book.writeOff(0), -4);
            Books.passTo(book, day);
            book.remind();
        }
        due.is("no time gone by", book.writeOff(0), -4);
        book.pass(6);
        int states = book.count(20);
        due.is("a day too early", book.writeOff(0), -4);
        due.is("states", book.count(20), states);
        book.pass(1);
        due.is("written off", book.writeOff(0), 115);
        due.bill(book, 0, 2, 100, 20, 120, 0, 5, 2, 20, 0, 15, 115, 3, 0, 0);
        due.is("again", book.writeOff(0), -4);
        due.is("owed on open ones", book.count(6), 0);
        due.is("owed on those written off", book.count(7), 115);
        InvoiceBook other = Books.withThreeReminders();
        other.set(2, 1);
        due.is("of the same day", other.writeOff(0), -4);
        other.pass(1);
        due.is("by a shorter time", other.writeOff(0), 135);
    }

    private static void closeYearByBills() {
        due.of(9);
        InvoiceBook book = new InvoiceBook();
        book.bill(0, 100, 20, 14);
        book.bill(1, 333, 7, 5);
        book.pass(99);
        book.bill(2, 50, 10, 0);
        book.pass(1);
        book.bill(3, 1000, 30, 0);
        due.is("the year 0", book.closeYear(0), 20 + 23 + 5);
        due.is("closed years", book.count(14), 1);
        due.is("again", book.closeYear(0), -5);
        Books.passTo(book, 200);
        due.is("the year 1", book.closeYear(1), 300);
        due.is("closed years", book.count(14), 2);
    }

    private static void closeYearByPayments() {
        due.of(9);
        InvoiceBook book = new InvoiceBook();
        book.set(4, 1);
        book.bill(0, 100, 20, 14);
        book.bill(1, 100, 7, 14);
        book.bill(2, 100, 20, 14);
        book.pay(0, 5);
        book.pay(0, 6);
        book.pay(1, 40);
        Books.passTo(book, 99);
        book.pay(1, 30);
        book.pass(1);
        book.pay(1, 20);
        book.pay(2, 1000);
        due.is("the year 0", book.closeYear(0), 0 + 1 + 2 + 1);
        Books.passTo(book, 200);
        due.is("the year 1", book.closeYear(1), 1 + 20);
        Books.passTo(book, 300);
        due.is("a year of nothing", book.closeYear(2), 0);
    }

    private static void closedYearStays() {
        due.of(9);
        InvoiceBook book = new InvoiceBook();
        book.bill(0, 100, 20, 14);
        book.pay(0, 60);
        Books.passTo(book, 100);
        book.closeYear(0);
        book.set(4, 1);
        due.is("as it was told", book.tax(0, 2), 20);
        due.is("by payments", book.tax(0, 1), 10);
        due.is("closed", book.closeYear(0), -5);
        book.pay(0, 60);
        due.is("as it was told", book.tax(0, 2), 20);
        Books.passTo(book, 200);
        due.is("the year 1", book.closeYear(1), 10);
        book.set(4, 0);
        due.is("as it was told", book.tax(1, 2), 10);
        due.is("by bills", book.tax(1, 0), 0);
    }

    private static void setAnswersThePrevious() {
        due.of(10);
        InvoiceBook book = new InvoiceBook();
        int[] first = {10, 2, 7, 5, 0};
        int[] least = {0, 0, 1, 0, 0};
        int[] most = {99, 20, 99, 99, 1};
        for (int which = 0; which < 5; which++) {
            due.is("to the most", book.set(which, most[which]), first[which]);
            due.is("so already", book.set(which, most[which]), -5);
            due.is("to the least", book.set(which, least[which]), most[which]);
            due.is("told", book.count(15 + which), least[which]);
        }
        due.is("undo", book.undo(), 3);
        due.is("told", book.count(19), 1);
    }
}
