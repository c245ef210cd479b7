/** Promises 6 to 10: a test of its own for each sentence of the document that names a boundary. */
public final class DayEdgesTest {
    private static final Due due = new Due();

    public static void main(String[] args) {
        passDays();
        passFull();
        passErrorsInOrder();
        passOverdue();
        passOverdueOfOpenOnes();
        passManyOverdue();
        remindNone();
        remindIfOverdue();
        remindFirstSinceTheDueDay();
        remindSinceTheLatest();
        remindByTheSetting();
        remindAtMostThree();
        remindFees();
        remindFeesOfTheSetting();
        remindNoneOfPaidOnes();
        remindNoneWrittenOff();
        remindAll();
        writeOffBill();
        writeOffTooFewReminders();
        writeOffTooEarly();
        writeOffByTheSetting();
        writeOffPaidOne();
        writeOffTwice();
        writeOffErrorsInOrder();
        closeYearYear();
        closeYearNotOver();
        closeYearOneAheadIsOpen();
        closeYearClosed();
        closeYearErrorsInOrder();
        closeYearHasAHundredDays();
        closeYearPaymentsOfAHundredDays();
        closeYearOfNothing();
        closeYearUpToTheLast();
        closeYearTaxRoundedDown();
        closeYearTaxOfCredit();
        closeYearKept();
        setWhich();
        setValues();
        setNone();
        setErrorsInOrder();
        due.end();
    }

    private static void passDays() {
        due.of(6, "`days`: 1 to 99");
        for (int days : Books.outside(1, 99)) {
            due.refuses("pass(" + days + ")", -2, Books::withAll, b -> b.pass(days));
        }
        InvoiceBook book = new InvoiceBook();
        due.is("the least", book.pass(1), 0);
        due.is("day", book.count(0), 1);
        due.is("the most", book.pass(99), 0);
        due.is("day", book.count(0), 100);
    }

    private static void passFull() {
        due.of(6, "FULL if the day would be beyond 9999");
        due.refuses("the most from 9901", -3, () -> Books.onDay(9901), b -> b.pass(99));
        due.refuses("two days from 9998", -3, () -> Books.onDay(9998), b -> b.pass(2));
        due.refuses("a day from 9999", -3, () -> Books.onDay(9999), b -> b.pass(1));
        InvoiceBook book = Books.onDay(9900);
        due.is("the most from 9900", book.pass(99), 0);
        due.is("day", book.count(0), 9999);
        book.undo();
        book.pass(98);
        due.is("a day from 9998", book.pass(1), 0);
        due.is("day", book.count(0), 9999);
    }

    private static void passErrorsInOrder() {
        due.of(6, "how many bills are overdue then; BAD_VALUE; FULL if the day would be beyond 9999");
        for (int days : Books.outside(1, 99)) {
            due.refuses("pass(" + days + ")", -2, () -> Books.onDay(9999), b -> b.pass(days));
        }
    }

    private static void passOverdue() {
        due.of(6, "An open bill is overdue if more days have gone by since it was written than those "
            + "until it is due.");
        InvoiceBook book = Books.onDay(3);
        book.bill(0, 10, 0, 0);
        book.bill(0, 10, 0, 1);
        book.bill(0, 10, 0, 99);
        due.is("overdue on the day it is due", book.count(5), 0);
        due.is("pass(1)", book.pass(1), 1);
        due.is("pass(1)", book.pass(1), 2);
        due.is("pass(96)", book.pass(96), 2);
        due.is("on the day the last is due", book.pass(1), 2);
        due.is("a day later", book.pass(1), 3);
    }

    private static void passOverdueOfOpenOnes() {
        due.of(6, "An open bill is overdue");
        InvoiceBook book = new InvoiceBook();
        book.bill(0, 100, 0, 0);
        book.bill(0, 100, 0, 0);
        book.payBill(0, 98);
        book.payBill(1, 97);
        due.is("one is paid, one is not", book.pass(1), 1);
        due.is("one is written off", Books.withWriteOff().pass(1), 0);
    }

    private static void passManyOverdue() {
        due.of(6, "how many bills are overdue then");
        due.is("none of none", new InvoiceBook().pass(99), 0);
        due.is("all of 40", Books.withAllBills().pass(1), 40);
    }

    private static void remindNone() {
        due.of(7, "NONE if there are none");
        due.refuses("without a bill", -5, InvoiceBook::new, b -> b.remind());
        due.refuses("with bills of today", -5, Books::withAllBills, b -> b.remind());
        due.refuses("with three sent for the only one", -5, Books::withThreeReminders, b -> b.remind());
    }

    private static void remindIfOverdue() {
        due.of(7, "A reminder is sent if it is overdue");
        InvoiceBook book = new InvoiceBook();
        book.set(2, 1);
        book.bill(0, 100, 0, 2);
        book.pass(2);
        due.is("on the day it is due", book.remind(), -5);
        book.pass(1);
        due.is("a day later", book.remind(), 1);
    }

    private static void remindFirstSinceTheDueDay() {
        due.of(7, "(or, for the first one, since the day on which it was due)");
        for (int days : new int[] {0, 1, 99}) {
            InvoiceBook book = new InvoiceBook();
            book.bill(0, 100, 0, days);
            Books.passTo(book, days + 6);
            due.is("a day too early", book.remind(), -5);
            book.pass(1);
            due.is("seven days behind the day " + days, book.remind(), 1);
        }
    }

    private static void remindSinceTheLatest() {
        due.of(7, "at least as many days as the setting 2 tells (1 to 99; 7 at first) "
            + "have gone by since the latest one");
        InvoiceBook book = new InvoiceBook();
        book.bill(0, 100, 0, 0);
        book.pass(20);
        due.is("the first, late", book.remind(), 1);
        due.is("the same day", book.remind(), -5);
        book.pass(6);
        due.is("a day too early for the second", book.remind(), -5);
        book.pass(1);
        due.is("the second", book.remind(), 1);
        book.pass(6);
        due.is("a day too early for the third", book.remind(), -5);
        book.pass(1);
        due.is("the third", book.remind(), 1);
    }

    private static void remindByTheSetting() {
        due.of(7, "at least as many days as the setting 2 tells (1 to 99; 7 at first)");
        for (int days : new int[] {1, 99}) {
            InvoiceBook book = new InvoiceBook();
            book.set(2, days);
            book.bill(0, 100, 0, 0);
            for (int sent = 1; sent <= 3; sent++) {
                for (int passed = 1; passed < days; passed++) {
                    book.pass(1);
                }
                due.is("a day too early", book.remind(), -5);
                book.pass(1);
                due.is("behind " + days + " days", book.remind(), 1);
                due.is("reminders", book.billOf(0, 11), sent);
            }
        }
    }

    private static void remindAtMostThree() {
        due.of(7, "fewer than 3 were sent for it");
        InvoiceBook book = Books.withThreeReminders();
        book.pass(99);
        due.is("a fourth", book.remind(), -5);
        book.set(2, 1);
        due.is("a fourth by a shorter time", book.remind(), -5);
        due.is("reminders", book.billOf(0, 11), 3);
        due.is("fees", book.billOf(0, 9), 15);
    }

    private static void remindFees() {
        due.of(7, "With the first one no fee is added to it, with the second one the setting 3 "
            + "(0 to 99; 5 at first), with the third one twice that.");
        InvoiceBook book = new InvoiceBook();
        book.bill(0, 100, 0, 0);
        int[] fees = {0, 5, 15};
        for (int fee : fees) {
            book.pass(7);
            book.remind();
            due.is("fees", book.billOf(0, 9), fee);
            due.is("owed", book.billOf(0, 10), 100 + fee);
            due.is("sum", book.billOf(0, 3), 100);
        }
    }

    private static void remindFeesOfTheSetting() {
        due.of(7, "the setting 3 (0 to 99; 5 at first)");
        for (int fee : new int[] {0, 1, 99}) {
            InvoiceBook book = new InvoiceBook();
            book.set(2, 1);
            book.set(3, fee);
            book.bill(0, 100, 0, 0);
            for (int sent = 1; sent <= 3; sent++) {
                book.pass(1);
                book.remind();
            }
            due.is("fees", book.billOf(0, 9), 3 * fee);
            due.is("all fees", book.count(12), 3 * fee);
        }
    }

    private static void remindNoneOfPaidOnes() {
        due.of(7, "An open bill is overdue");
        InvoiceBook book = new InvoiceBook();
        book.set(1, 0);
        book.bill(0, 100, 0, 0);
        book.pass(7);
        book.payBill(0, 99);
        due.is("a coin is owed", book.remind(), 1);
        book.undo();
        book.payBill(0, 1);
        due.is("nothing is owed", book.remind(), -5);
    }

    private static void remindNoneWrittenOff() {
        due.of(7, "An open bill is overdue");
        InvoiceBook book = Books.withWriteOff();
        book.pass(99);
        due.is("remind()", book.remind(), -5);
        book.payBill(0, 1);
        book.pass(99);
        due.is("in part paid", book.remind(), -5);
    }

    private static void remindAll() {
        due.of(7, "Sends all reminders that are to be sent.");
        InvoiceBook book = Books.withAllBills();
        book.pass(7);
        due.is("all of 40", book.remind(), 40);
        due.is("reminders", book.count(13), 40);
        book.pass(7);
        due.is("all of 40", book.remind(), 40);
        due.is("reminders", book.count(13), 80);
        due.is("fees", book.count(12), 200);
    }

    private static void writeOffBill() {
        due.of(8, "`bill`: a bill");
        due.refuses("of none", -1, InvoiceBook::new, b -> b.writeOff(0));
        for (int bill : Books.outside(0, 3)) {
            due.refuses("writeOff(" + bill + ")", -1, Books::withAll, b -> b.writeOff(bill));
        }
        due.refuses("writeOff(40)", -1, Books::withAllBills, b -> b.writeOff(40));
        due.refuses("writeOff(39)", -4, Books::withAllBills, b -> b.writeOff(39));
    }

    private static void writeOffTooFewReminders() {
        due.of(8, "A bill with 3 reminders can be written off");
        InvoiceBook book = new InvoiceBook();
        book.bill(0, 100, 0, 0);
        for (int sent = 0; sent < 3; sent++) {
            due.is("reminders", book.billOf(0, 11), sent);
            book.pass(99);
            due.is("long behind", book.writeOff(0), -4);
            book.remind();
        }
        book.pass(99);
        due.is("long behind three", book.writeOff(0), 115);
    }

    private static void writeOffTooEarly() {
        due.of(8, "if at least as many days as the setting 2 tells have gone by since the third one");
        due.refuses("on the same day", -4, Books::withThreeReminders, b -> b.writeOff(0));
        InvoiceBook book = Books.withThreeReminders();
        book.pass(6);
        due.is("a day too early", book.writeOff(0), -4);
        due.is("still open", book.billOf(0, 6), 0);
        book.pass(1);
        due.is("seven days behind", book.writeOff(0), 135);
        due.is("written off", book.billOf(0, 6), 2);
        book.undo();
        book.pass(99);
        due.is("long behind", book.writeOff(0), 135);
    }

    private static void writeOffByTheSetting() {
        due.of(8, "if at least as many days as the setting 2 tells have gone by since the third one");
        for (int days : new int[] {1, 8, 99}) {
            InvoiceBook book = Books.withThreeReminders();
            book.set(2, days);
            Books.passTo(book, 26 + days - 1);
            due.is("a day too early", book.writeOff(0), -4);
            book.pass(1);
            due.is("behind " + days + " days", book.writeOff(0), 135);
        }
    }

    private static void writeOffPaidOne() {
        due.of(8, "NOT_POSSIBLE if that is not possible now");
        InvoiceBook book = Books.withThreeReminders();
        book.pay(2, 134);
        book.pass(7);
        due.is("with a coin owed", book.writeOff(0), 1);
        book.undo();
        book.pay(2, 1);
        due.is("with nothing owed", book.writeOff(0), -4);
        due.is("paid", book.billOf(0, 6), 1);
    }

    private static void writeOffTwice() {
        due.of(8, "NOT_POSSIBLE if that is not possible now");
        due.refuses("written off", -4, Books::withWriteOff, b -> b.writeOff(0));
        InvoiceBook book = Books.withWriteOff();
        book.pass(99);
        due.is("long behind", book.writeOff(0), -4);
    }

    private static void writeOffErrorsInOrder() {
        due.of(8, "what is owed on it; UNKNOWN; NOT_POSSIBLE if that is not possible now");
        due.refuses("writeOff(1)", -1, Books::withWriteOff, b -> b.writeOff(1));
        due.refuses("writeOff(-1)", -1, Books::withWriteOff, b -> b.writeOff(-1));
    }

    private static void closeYearYear() {
        due.of(9, "`year`: a year, 0 to 99");
        for (int year : Books.outside(0, 99)) {
            due.refuses("closeYear(" + year + ")", -1, Books::withAll, b -> b.closeYear(year));
        }
        due.refuses("closeYear(99)", -4, Books::withAll, b -> b.closeYear(99));
        due.is("closeYear(0)", Books.onDay(100).closeYear(0), 0);
    }

    private static void closeYearNotOver() {
        due.of(9, "NOT_POSSIBLE if not all days of it are over");
        due.refuses("on the first day", -4, InvoiceBook::new, b -> b.closeYear(0));
        due.refuses("on its last day", -4, () -> Books.onDay(99), b -> b.closeYear(0));
        InvoiceBook book = Books.onDay(100);
        due.is("on the day behind", book.closeYear(0), 0);
        book.pass(99);
        due.is("on its last day", book.closeYear(1), -4);
        book.pass(1);
        due.is("on the day behind", book.closeYear(1), 0);
    }

    private static void closeYearOneAheadIsOpen() {
        due.of(9, "or one ahead of it is not closed");
        due.refuses("closeYear(1)", -4, () -> Books.onDay(500), b -> b.closeYear(1));
        due.refuses("closeYear(2)", -4, () -> Books.onDay(500), b -> b.closeYear(2));
        InvoiceBook book = Books.onDay(500);
        due.is("closeYear(0)", book.closeYear(0), 0);
        due.is("closeYear(2)", book.closeYear(2), -4);
        due.is("closeYear(1)", book.closeYear(1), 0);
        due.is("closeYear(2)", book.closeYear(2), 0);
        due.is("closed years", book.count(14), 3);
    }

    private static void closeYearClosed() {
        due.of(9, "NONE if it is closed");
        due.refuses("closeYear(0)", -5, Books::withAll, b -> b.closeYear(0));
        InvoiceBook book = Books.onDay(300);
        for (int year = 0; year < 3; year++) {
            book.closeYear(year);
        }
        for (int year = 0; year < 3; year++) {
            due.is("closeYear(" + year + ")", book.closeYear(year), -5);
        }
        book.undo();
        due.is("closed again", book.closeYear(2), 0);
    }

    private static void closeYearErrorsInOrder() {
        due.of(9, "the tax that is due; UNKNOWN; NOT_POSSIBLE if not all days of it are over, "
            + "or one ahead of it is not closed; NONE if it is closed");
        due.refuses("closeYear(100)", -1, InvoiceBook::new, b -> b.closeYear(100));
        due.refuses("closeYear(-1)", -1, () -> Books.onDay(200), b -> b.closeYear(-1));
    }

    private static void closeYearHasAHundredDays() {
        due.of(9, "a year has 100 days, the day d is in the year d / 100, rounded down");
        int[][] years = {{0, 0}, {1, 0}, {99, 0}, {100, 1}, {199, 1}, {200, 2}};
        for (int[] one : years) {
            InvoiceBook book = Books.onDay(one[0]);
            book.bill(0, 100, 20, 0);
            Books.passTo(book, 300);
            for (int year = 0; year < 3; year++) {
                due.is("the year " + year + " of the day " + one[0], book.closeYear(year), year == one[1] ? 20 : 0);
            }
        }
    }

    private static void closeYearPaymentsOfAHundredDays() {
        due.of(9, "if it is 1, the share of tax in all that was paid in it");
        int[][] years = {{0, 0}, {99, 0}, {100, 1}, {199, 1}, {200, 2}};
        for (int[] one : years) {
            InvoiceBook book = new InvoiceBook();
            book.set(4, 1);
            book.bill(0, 100, 20, 0);
            Books.passTo(book, one[0]);
            book.payBill(0, 60);
            Books.passTo(book, 300);
            for (int year = 0; year < 3; year++) {
                due.is("the year " + year + " of the day " + one[0], book.closeYear(year), year == one[1] ? 10 : 0);
            }
        }
    }

    private static void closeYearOfNothing() {
        due.of(9, "the taxes of all bills that were written in it");
        InvoiceBook book = new InvoiceBook();
        book.bill(0, 9999, 0, 0);
        book.pay(0, 9999);
        Books.passTo(book, 100);
        due.is("without a rate", book.closeYear(0), 0);
        due.is("is closed", book.count(14), 1);
        InvoiceBook all = new InvoiceBook();
        for (int bill = 0; bill < 40; bill++) {
            all.bill(bill % 8, 9999, 40, 0);
        }
        Books.passTo(all, 100);
        due.is("the most", all.closeYear(0), 160000);
    }

    private static void closeYearUpToTheLast() {
        due.of(9, "`year`: a year, 0 to 99");
        InvoiceBook book = Books.onDay(9999);
        for (int year = 0; year <= 98; year++) {
            due.is("closeYear(" + year + ")", book.closeYear(year), 0);
        }
        due.is("its last day is never over", book.closeYear(99), -4);
        due.is("closed years", book.count(14), 99);
        due.is("tax(98, 2)", book.tax(98, 2), 0);
        due.is("tax(99, 2)", book.tax(99, 2), -5);
    }

    private static void closeYearTaxRoundedDown() {
        due.of(9, "of each payment to a bill the amount times its rate, divided by (100 and the rate), rounded down");
        int[][] taxes = {{20, 5, 0}, {20, 6, 1}, {20, 11, 1}, {20, 12, 2}, {40, 13999, 3999}, {40, 3, 0}, {40, 4, 1},
            {1, 100, 0}, {1, 101, 1}, {1, 10098, 99}, {1, 10099, 99}, {39, 13898, 3899}, {0, 9999, 0},
            {19, 11898, 1899}};
        for (int[] tax : taxes) {
            InvoiceBook book = new InvoiceBook();
            book.set(1, 0);
            book.set(4, 1);
            book.bill(0, 9999, tax[0], 0);
            book.payBill(0, tax[1]);
            due.is("tax in " + tax[1] + " by " + tax[0], book.tax(0, 1), tax[2]);
            Books.passTo(book, 100);
            due.is("tax in " + tax[1] + " by " + tax[0], book.closeYear(0), tax[2]);
        }
        InvoiceBook each = new InvoiceBook();
        each.bill(0, 9999, 20, 0);
        for (int times = 0; times < 5; times++) {
            each.payBill(0, 11);
        }
        due.is("each is rounded", each.tax(0, 1), 5);
    }

    private static void closeYearTaxOfCredit() {
        due.of(9, "(Credit is not paid to a bill until a bill takes it.)");
        InvoiceBook book = new InvoiceBook();
        book.set(4, 1);
        book.pay(0, 60);
        Books.passTo(book, 100);
        due.is("not of the year of the payment", book.closeYear(0), 0);
        book.bill(0, 100, 20, 0);
        Books.passTo(book, 200);
        due.is("of the year of the bill", book.closeYear(1), 10);
    }

    private static void closeYearKept() {
        due.of(9, "later changes of the setting 4 do not change it");
        for (int way = 0; way <= 1; way++) {
            InvoiceBook book = new InvoiceBook();
            book.set(4, way);
            book.bill(0, 100, 20, 0);
            book.pay(0, 60);
            Books.passTo(book, 100);
            due.is("as it is closed", book.closeYear(0), way == 0 ? 20 : 10);
            book.set(4, 1 - way);
            due.is("tax(0, 2)", book.tax(0, 2), way == 0 ? 20 : 10);
            due.is("closeYear(0)", book.closeYear(0), -5);
            due.is("tax(0, 2)", book.tax(0, 2), way == 0 ? 20 : 10);
        }
    }

    private static void setWhich() {
        due.of(10, "`which`: 0 to 4");
        for (int which : Books.outside(0, 4)) {
            due.refuses("set(" + which + ", 1)", -1, Books::withAll, b -> b.set(which, 1));
        }
        InvoiceBook book = new InvoiceBook();
        due.is("the least", book.set(0, 11), 10);
        due.is("the most", book.set(4, 1), 0);
    }

    private static void setValues() {
        due.of(10, "`value`: in its range (the setting 4 is 0 or 1)");
        int[] first = {10, 2, 7, 5, 0};
        int[] least = {0, 0, 1, 0, 0};
        int[] most = {99, 20, 99, 99, 1};
        for (int i = 0; i < 5; i++) {
            int which = i;
            for (int value : Books.outside(least[which], most[which])) {
                due.refuses("set(" + which + ", " + value + ")", -2, Books::withAll, b -> b.set(which, value));
            }
            InvoiceBook book = new InvoiceBook();
            due.is("the most of " + which, book.set(which, most[which]), first[which]);
            due.is("the least of " + which, book.set(which, least[which]), most[which]);
            due.is("as it is then", book.count(15 + which), least[which]);
        }
    }

    private static void setNone() {
        due.of(10, "NONE if it is so already");
        int[] first = {10, 2, 7, 5, 0};
        for (int i = 0; i < 5; i++) {
            int which = i;
            due.refuses("set(" + which + ", " + first[which] + ")", -5, Books::withAll,
                b -> b.set(which, first[which]));
            InvoiceBook book = new InvoiceBook();
            book.set(which, 1);
            due.is("so by a call", book.set(which, 1), -5);
            due.is("states", book.count(20), 1);
        }
    }

    private static void setErrorsInOrder() {
        due.of(10, "the previous one; UNKNOWN; BAD_VALUE; NONE if it is so already");
        due.refuses("set(5, -1)", -1, Books::withAll, b -> b.set(5, -1));
        due.refuses("set(-1, 100)", -1, Books::withAll, b -> b.set(-1, 100));
    }
}
