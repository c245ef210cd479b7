/** Promises 6 to 10: days, reminders, write-offs, years, settings. */
public final class DaysTest {
    private static final int MIN = Integer.MIN_VALUE;
    private static final int MAX = Integer.MAX_VALUE;
    private static final Due due = new Due();

    public static void main(String[] args) {
        passTellsOverdueOnes();
        passRefuses();
        passEndsAtTheLastDay();
        remindSendsByWeeks();
        remindSendsToSeveral();
        remindTakesTheSettings();
        remindLeavesPaidOnesAlone();
        writeOffNeedsThreeRemindersAndTime();
        writeOffRefuses();
        closeYearByBills();
        closeYearByPayments();
        closeYearRefuses();
        closedYearStays();
        setAnswersThePrevious();
        setRefuses();
        due.end();
    }

    private static void passTellsOverdueOnes() {
        due.of(6);
        InvoiceBook book = new InvoiceBook();
        book.bill(0, 10, 0, 0);
        book.bill(1, 10, 0, 3);
        book.bill(2, 10, 0, 3);
        book.bill(3, 10, 0, 99);
        due.is("pass(1)", book.pass(1), 1);
        due.is("day", book.count(0), 1);
        due.is("pass(2), on the day they are due", book.pass(2), 1);
        due.is("pass(1)", book.pass(1), 3);
        book.pay(1, 10);
        due.is("pass(95)", book.pass(95), 2);
        due.is("day", book.count(0), 99);
        due.is("pass(1)", book.pass(1), 3);
        InvoiceBook other = Books.withWriteOff();
        due.is("written off is not overdue", other.pass(1), 0);
    }

    private static void passRefuses() {
        due.of(6);
        InvoiceBook book = new InvoiceBook();
        for (int days : new int[] {0, 100, -1, MIN, MAX}) {
            due.is("pass(" + days + ")", book.pass(days), -2);
        }
        due.is("day", book.count(0), 0);
        due.is("states", book.count(20), 0);
        due.is("pass(99)", book.pass(99), 0);
        due.is("states", book.count(20), 1);
    }

    private static void passEndsAtTheLastDay() {
        due.of(6);
        InvoiceBook book = new InvoiceBook();
        Books.passTo(book, 9998);
        due.is("pass(2)", book.pass(2), -3);
        due.is("day", book.count(0), 9998);
        due.is("pass(1)", book.pass(1), 0);
        due.is("pass(1)", book.pass(1), -3);
        due.is("pass(0)", book.pass(0), -2);
        due.is("pass(100)", book.pass(100), -2);
        due.is("day", book.count(0), 9999);
        due.is("bill on the last day", book.bill(0, 100, 20, 0), 0);
        due.is("pay on the last day", book.pay(0, 118), 1);
        due.is("tax of the last year", book.tax(99, 1), 19);
        due.is("closeYear(99)", book.closeYear(99), -4);
    }

    private static void remindSendsByWeeks() {
        due.of(7);
        InvoiceBook book = new InvoiceBook();
        book.bill(2, 100, 20, 5);
        Books.passTo(book, 11);
        due.is("a day too early", book.remind(), -5);
        due.is("NONE records nothing", book.count(20), 2);
        book.pass(1);
        due.is("first", book.remind(), 1);
        due.bill(book, 0, 2, 100, 20, 120, 0, 5, 0, 0, 0, 0, 120, 1, -5, 1);
        due.is("once a day", book.remind(), -5);
        book.pass(6);
        due.is("too early for the second", book.remind(), -5);
        book.pass(3);
        due.is("second", book.remind(), 1);
        due.bill(book, 0, 2, 100, 20, 120, 0, 5, 0, 0, 0, 5, 125, 2, -5, 1);
        book.pass(6);
        due.is("by the day of the second", book.remind(), -5);
        book.pass(1);
        due.is("third", book.remind(), 1);
        due.bill(book, 0, 2, 100, 20, 120, 0, 5, 0, 0, 0, 15, 135, 3, -5, 1);
        book.pass(99);
        due.is("no fourth", book.remind(), -5);
    }

    private static void remindSendsToSeveral() {
        due.of(7);
        InvoiceBook book = new InvoiceBook();
        due.is("no bill", book.remind(), -5);
        book.bill(0, 100, 0, 0);
        book.bill(1, 100, 0, 1);
        book.bill(2, 100, 0, 0);
        book.pass(7);
        due.is("two of three", book.remind(), 2);
        book.pass(1);
        due.is("the other", book.remind(), 1);
        book.pass(7);
        due.is("all", book.remind(), 3);
        due.is("reminders", book.count(13), 6);
        due.is("fees", book.count(12), 15);
    }

    private static void remindTakesTheSettings() {
        due.of(7);
        InvoiceBook book = new InvoiceBook();
        book.set(2, 1);
        book.set(3, 99);
        book.bill(0, 100, 0, 0);
        due.is("on the day it is due", book.remind(), -5);
        book.pass(1);
        due.is("first", book.remind(), 1);
        book.set(2, 3);
        book.pass(2);
        due.is("too early", book.remind(), -5);
        book.pass(1);
        due.is("second", book.remind(), 1);
        due.is("fees", book.billOf(0, 9), 99);
        book.set(3, 10);
        book.pass(3);
        due.is("third", book.remind(), 1);
        due.is("fees", book.billOf(0, 9), 119);
    }

    private static void remindLeavesPaidOnesAlone() {
        due.of(7);
        InvoiceBook book = new InvoiceBook();
        book.bill(0, 100, 0, 0);
        book.pay(0, 98);
        book.pass(50);
        due.is("paid", book.remind(), -5);
        InvoiceBook other = Books.withWriteOff();
        other.pass(50);
        due.is("written off", other.remind(), -5);
        due.is("reminders", other.billOf(0, 11), 3);
    }

    private static void writeOffNeedsThreeRemindersAndTime() {
        due.of(8);
        InvoiceBook book = new InvoiceBook();
        book.bill(2, 100, 20, 5);
        book.payBill(0, 20);
        for (int day = 12; day <= 26; day += 7) {
            due.is("too few reminders", book.writeOff(0), -4);
            Books.passTo(book, day);
            book.remind();
        }
        due.is("no time gone by", book.writeOff(0), -4);
        book.pass(6);
        int states = book.count(20);
        due.is("a day too early", book.writeOff(0), -4);
        due.is("states", book.count(20), states);
        book.pass(1);
        due.is("written off", book.writeOff(0), 115);
        due.bill(book, 0, 2, 100, 20, 120, 0, 5, 2, 20, 0, 15, 115, 3, 0, 0);
        due.is("again", book.writeOff(0), -4);
        due.is("owed on open ones", book.count(6), 0);
        due.is("owed on those written off", book.count(7), 115);
        InvoiceBook other = Books.withThreeReminders();
        other.set(2, 1);
        due.is("of the same day", other.writeOff(0), -4);
        other.pass(1);
        due.is("by a shorter time", other.writeOff(0), 135);
    }

    private static void writeOffRefuses() {
        due.of(8);
        InvoiceBook book = new InvoiceBook();
        due.is("no bill", book.writeOff(0), -1);
        book.bill(0, 100, 0, 0);
        for (int bill : new int[] {-1, 1, 39, 40, MIN, MAX}) {
            due.is("writeOff(" + bill + ")", book.writeOff(bill), -1);
        }
        due.is("not reminded", book.writeOff(0), -4);
        InvoiceBook other = Books.withThreeReminders();
        other.pay(2, 135);
        other.pass(7);
        due.is("paid", other.writeOff(0), -4);
        due.is("state", other.billOf(0, 6), 1);
    }

    private static void closeYearByBills() {
        due.of(9);
        InvoiceBook book = new InvoiceBook();
        book.bill(0, 100, 20, 14);
        book.bill(1, 333, 7, 5);
        book.pass(99);
        book.bill(2, 50, 10, 0);
        book.pass(1);
        book.bill(3, 1000, 30, 0);
        due.is("the year 0", book.closeYear(0), 20 + 23 + 5);
        due.is("closed years", book.count(14), 1);
        due.is("again", book.closeYear(0), -5);
        Books.passTo(book, 200);
        due.is("the year 1", book.closeYear(1), 300);
        due.is("closed years", book.count(14), 2);
    }

    private static void closeYearByPayments() {
        due.of(9);
        InvoiceBook book = new InvoiceBook();
        book.set(4, 1);
        book.bill(0, 100, 20, 14);
        book.bill(1, 100, 7, 14);
        book.bill(2, 100, 20, 14);
        book.pay(0, 5);
        book.pay(0, 6);
        book.pay(1, 40);
        Books.passTo(book, 99);
        book.pay(1, 30);
        book.pass(1);
        book.pay(1, 20);
        book.pay(2, 1000);
        due.is("the year 0", book.closeYear(0), 0 + 1 + 2 + 1);
        Books.passTo(book, 200);
        due.is("the year 1", book.closeYear(1), 1 + 20);
        Books.passTo(book, 300);
        due.is("a year of nothing", book.closeYear(2), 0);
    }

    private static void closeYearRefuses() {
        due.of(9);
        InvoiceBook book = new InvoiceBook();
        for (int year : new int[] {-1, 100, MIN, MAX}) {
            due.is("closeYear(" + year + ")", book.closeYear(year), -1);
        }
        due.is("not over", book.closeYear(0), -4);
        book.pass(99);
        due.is("on its last day", book.closeYear(0), -4);
        Books.passTo(book, 250);
        due.is("one ahead is open", book.closeYear(1), -4);
        int states = book.count(20);
        due.is("the year 0", book.closeYear(0), 0);
        due.is("states", book.count(20), Math.min(4, states + 1));
        due.is("the year 1", book.closeYear(1), 0);
        due.is("the year 0 again", book.closeYear(0), -5);
        due.is("the year 2", book.closeYear(2), -4);
        due.is("the year 99", book.closeYear(99), -4);
        due.is("closed years", book.count(14), 2);
    }

    private static void closedYearStays() {
        due.of(9);
        InvoiceBook book = new InvoiceBook();
        book.bill(0, 100, 20, 14);
        book.pay(0, 60);
        Books.passTo(book, 100);
        book.closeYear(0);
        book.set(4, 1);
        due.is("as it was told", book.tax(0, 2), 20);
        due.is("by payments", book.tax(0, 1), 10);
        due.is("closed", book.closeYear(0), -5);
        book.pay(0, 60);
        due.is("as it was told", book.tax(0, 2), 20);
        Books.passTo(book, 200);
        due.is("the year 1", book.closeYear(1), 10);
        book.set(4, 0);
        due.is("as it was told", book.tax(1, 2), 10);
        due.is("by bills", book.tax(1, 0), 0);
    }

    private static void setAnswersThePrevious() {
        due.of(10);
        InvoiceBook book = new InvoiceBook();
        int[] first = {10, 2, 7, 5, 0};
        int[] least = {0, 0, 1, 0, 0};
        int[] most = {99, 20, 99, 99, 1};
        for (int which = 0; which < 5; which++) {
            due.is("so already", book.set(which, first[which]), -5);
            due.is("below", book.set(which, least[which] - 1), -2);
            due.is("above", book.set(which, most[which] + 1), -2);
            due.is("MIN", book.set(which, MIN), -2);
            due.is("MAX", book.set(which, MAX), -2);
        }
        due.is("states", book.count(20), 0);
        for (int which = 0; which < 5; which++) {
            due.is("to the most", book.set(which, most[which]), first[which]);
            due.is("so already", book.set(which, most[which]), -5);
            due.is("to the least", book.set(which, least[which]), most[which]);
            due.is("told", book.count(15 + which), least[which]);
        }
        due.is("undo", book.undo(), 3);
        due.is("told", book.count(19), 1);
    }

    private static void setRefuses() {
        due.of(10);
        InvoiceBook book = new InvoiceBook();
        for (int which : new int[] {-1, 5, MIN, MAX}) {
            due.is("set(" + which + ", 1)", book.set(which, 1), -1);
            due.is("set(" + which + ", -1)", book.set(which, -1), -1);
        }
        due.is("states", book.count(20), 0);
    }
}
