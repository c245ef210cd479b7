/** Promises 18 to 26: a test of its own for each sentence of the document that names a boundary. */
public final class ToldEdgesTest {
    private static final Due due = new Due();

    public static void main(String[] args) {
        billOfBill();
        billOfWhat();
        billOfErrorsInOrder();
        billOfNothingOwed();
        billOfNoPayment();
        billOfLatestPayment();
        billOfOverdue();
        billOfLargest();
        customerCustomer();
        customerWhat();
        customerErrorsInOrder();
        customerWithoutBills();
        customerOldestOpen();
        customerPaidSoFar();
        customerOwedOnWriteOffs();
        customerLargest();
        taxYear();
        taxWay();
        taxErrorsInOrder();
        taxNotClosed();
        taxAsItIs();
        taxOfOneWrittenOff();
        reasonBill();
        reasonOverdue();
        reasonTooFewDays();
        reasonThreeSent();
        reasonWrittenOffAndPaid();
        reasonIsWhatRemindDoes();
        ifPaidCustomer();
        ifPaidAmount();
        ifPaidWhat();
        ifPaidFull();
        ifPaidErrorsInOrder();
        ifPaidChangesNothing();
        ifPaidIsWhatPayDoes();
        settlesCustomer();
        settlesNothing();
        settlesLeast();
        settlesWithDiscounts();
        settlesLargest();
        nextReminderBill();
        nextReminderNone();
        nextReminderBeyond();
        nextReminderNow();
        nextReminderLater();
        nextReminderIsWhenRemindSends();
        worstNone();
        worstOfSeveral();
        worstOfOpenOnes();
        countWhat();
        countOfHistoryAndText();
        countMost();
        countPaidSoFar();
        due.end();
    }

    private static void billOfBill() {
        due.of(18, "`bill`: a bill");
        due.refuses("of none", -1, InvoiceBook::new, b -> b.billOf(0, 0));
        for (int bill : Books.outside(0, 3)) {
            due.refuses("billOf(" + bill + ", 0)", -1, Books::withAll, b -> b.billOf(bill, 0));
        }
        InvoiceBook book = Books.withAllBills();
        due.is("the first", book.billOf(0, 0), 0);
        due.is("the last", book.billOf(39, 0), 7);
        due.is("behind the last", book.billOf(40, 0), -1);
    }

    private static void billOfWhat() {
        due.of(18, "13 for whether it is overdue (1, otherwise 0)");
        for (int what : Books.outside(0, 13)) {
            due.refuses("billOf(2, " + what + ")", -2, Books::withAll, b -> b.billOf(2, what));
        }
        due.bill(Books.withAll(), 2, 1, 300, 0, 300, 33, 33, 0, 40, 0, 0, 260, 0, 33, 1);
    }

    private static void billOfErrorsInOrder() {
        due.of(18, "the number; UNKNOWN; BAD_VALUE");
        due.is("billOf(4, 14)", Books.withAll().billOf(4, 14), -1);
        due.is("billOf(-1, -1)", Books.withAll().billOf(-1, -1), -1);
    }

    private static void billOfNothingOwed() {
        due.of(18, "10 for what is owed on it (0 if it is paid)");
        InvoiceBook book = new InvoiceBook();
        book.bill(0, 100, 0, 0);
        book.bill(0, 100, 0, 0);
        book.pay(0, 98);
        due.is("paid with a discount", book.billOf(0, 10), 0);
        book.set(1, 0);
        book.pay(0, 99);
        due.is("with a coin missing", book.billOf(1, 10), 1);
        book.pay(0, 1);
        due.is("paid", book.billOf(1, 10), 0);
        InvoiceBook late = Books.withWriteOff();
        due.is("written off", late.billOf(0, 10), 135);
        late.payBill(0, 200);
        due.is("paid behind a write-off", late.billOf(0, 10), 0);
    }

    private static void billOfNoPayment() {
        due.of(18, "12 for the day of the latest payment on it, also by credit (NONE without one)");
        due.is("none", Books.withThreeReminders().billOf(0, 12), -5);
        InvoiceBook book = new InvoiceBook();
        book.bill(0, 100, 0, 0);
        book.bill(0, 100, 0, 0);
        book.pay(0, 98);
        due.is("on the day 0", book.billOf(0, 12), 0);
        due.is("nothing was left for it", book.billOf(1, 12), -5);
    }

    private static void billOfLatestPayment() {
        due.of(18, "12 for the day of the latest payment on it, also by credit (NONE without one)");
        InvoiceBook book = new InvoiceBook();
        book.pass(3);
        book.pay(0, 10);
        book.pass(4);
        book.bill(0, 100, 0, 0);
        due.is("by credit", book.billOf(0, 12), 7);
        book.pass(5);
        book.pay(0, 1);
        due.is("by a payment", book.billOf(0, 12), 12);
        book.pass(1);
        due.is("stays", book.billOf(0, 12), 12);
        InvoiceBook late = Books.withWriteOff();
        late.payBill(0, 1);
        due.is("written off", late.billOf(0, 12), 33);
    }

    private static void billOfOverdue() {
        due.of(18, "13 for whether it is overdue (1, otherwise 0)");
        InvoiceBook book = Books.onDay(2);
        book.bill(0, 100, 0, 3);
        for (int day = 2; day <= 5; day++) {
            due.is("on the day " + day, book.billOf(0, 13), 0);
            book.pass(1);
        }
        due.is("on the day 6", book.billOf(0, 13), 1);
        book.pay(0, 200);
        due.is("paid", book.billOf(0, 13), 0);
        due.is("written off", Books.withWriteOff().billOf(0, 13), 0);
        due.is("with three reminders", Books.withThreeReminders().billOf(0, 13), 1);
    }

    private static void billOfLargest() {
        due.of(18, "What is owed on a bill is its sum and all fees of its reminders, less what was paid on it, "
            + "and less the discount that was taken.");
        InvoiceBook book = new InvoiceBook();
        book.set(3, 99);
        book.set(2, 1);
        book.bill(0, 9999, 40, 0);
        for (int sent = 0; sent < 3; sent++) {
            book.pass(1);
            book.remind();
        }
        due.bill(book, 0, 0, 9999, 4000, 13999, 0, 0, 0, 0, 0, 297, 14296, 3, -5, 1);
        book.pay(0, 14295);
        due.is("a coin is owed", book.billOf(0, 10), 1);
    }

    private static void customerCustomer() {
        due.of(19, "`customer`: 0 to 7");
        for (int customer : Books.outside(0, 7)) {
            due.refuses("customer(" + customer + ", 0)", -1, Books::withAll, b -> b.customer(customer, 0));
        }
        InvoiceBook book = Books.withAllBills();
        book.bill(7, 1, 0, 0);
        due.is("the first", book.customer(0, 6), 0);
        due.is("the last", book.customer(7, 6), 7);
    }

    private static void customerWhat() {
        due.of(19, "6 for the oldest open bill (NONE without one)");
        for (int what : Books.outside(0, 6)) {
            due.refuses("customer(0, " + what + ")", -2, Books::withAll, b -> b.customer(0, what));
        }
        due.customer(Books.withAll(), 0, 2, 1, 90, 0, 216, 0, 3);
        due.customer(Books.withAll(), 1, 1, 1, 260, 0, 40, 0, 2);
        due.customer(Books.withAll(), 2, 1, 0, 0, 0, 0, 135, -5);
        due.customer(Books.withAll(), 3, 0, 0, 0, 70, 70, 0, -5);
    }

    private static void customerErrorsInOrder() {
        due.of(19, "the number; UNKNOWN; BAD_VALUE");
        due.is("customer(8, 7)", Books.withAll().customer(8, 7), -1);
        due.is("customer(-1, -1)", Books.withAll().customer(-1, -1), -1);
    }

    private static void customerWithoutBills() {
        due.of(19, "6 for the oldest open bill (NONE without one)");
        due.customer(Books.withAll(), 7, 0, 0, 0, 0, 0, 0, -5);
        InvoiceBook book = new InvoiceBook();
        book.bill(0, 1, 0, 0);
        due.is("the bill 0", book.customer(0, 6), 0);
        book.pay(0, 1);
        due.customer(book, 0, 1, 0, 0, 0, 1, 0, -5);
        due.is("written off", Books.withWriteOff().customer(2, 6), -5);
    }

    private static void customerOldestOpen() {
        due.of(19, "6 for the oldest open bill");
        InvoiceBook book = new InvoiceBook();
        for (int bill = 0; bill < 4; bill++) {
            book.bill(1, 10, 0, 99 - bill);
            book.bill(2, 10, 0, 0);
            book.pass(bill % 2 + 1);
        }
        for (int bill = 0; bill < 8; bill += 2) {
            due.is("customer(1, 6)", book.customer(1, 6), bill);
            book.pay(1, 10);
        }
        due.is("customer(1, 6)", book.customer(1, 6), -5);
        due.is("customer(2, 6)", book.customer(2, 6), 1);
        book.payBill(1, 1);
        due.is("in part paid", book.customer(2, 6), 1);
        book.payBill(3, 10);
        book.payBill(1, 9);
        due.is("behind a later one", book.customer(2, 6), 5);
    }

    private static void customerPaidSoFar() {
        due.of(19, "4 for what was paid so far (with credit, less what was paid back)");
        InvoiceBook book = new InvoiceBook();
        book.bill(0, 100, 0, 0);
        book.pay(0, 30);
        due.is("on a bill", book.customer(0, 4), 30);
        book.pay(0, 80);
        due.is("with credit", book.customer(0, 4), 110);
        book.bill(0, 5, 0, 0);
        due.is("credit that a bill took", book.customer(0, 4), 110);
        book.payBack(0);
        due.is("less what was paid back", book.customer(0, 4), 103);
        book.pay(0, 9);
        due.is("more credit", book.customer(0, 4), 112);
        InvoiceBook all = new InvoiceBook();
        all.pay(0, 77);
        all.payBack(0);
        due.is("all of it was paid back", all.customer(0, 4), 0);
    }

    private static void customerOwedOnWriteOffs() {
        due.of(19, "5 for what is owed on those that are written off");
        InvoiceBook book = Books.withWriteOff();
        due.is("nothing of open ones", book.customer(2, 2), 0);
        due.is("all", book.customer(2, 5), 135);
        book.payBill(0, 134);
        due.is("a coin", book.customer(2, 5), 1);
        book.payBill(0, 1);
        due.is("nothing", book.customer(2, 5), 0);
        due.is("another's", Books.withWriteOff().customer(1, 5), 0);
    }

    private static void customerLargest() {
        due.of(19, "2 for what is owed on open ones together");
        InvoiceBook book = new InvoiceBook();
        for (int bill = 0; bill < 40; bill++) {
            book.bill(7, 9999, 40, 0);
        }
        due.customer(book, 7, 40, 40, 559960, 0, 0, 0, 0);
        due.is("count(6)", book.count(6), 559960);
    }

    private static void taxYear() {
        due.of(20, "`year`: 0 to 99");
        for (int year : Books.outside(0, 99)) {
            for (int way = 0; way <= 2; way++) {
                int asked = way;
                due.refuses("tax(" + year + ", " + way + ")", -1, Books::withAll, b -> b.tax(year, asked));
            }
        }
        InvoiceBook book = Books.onDay(9900);
        book.bill(0, 100, 20, 0);
        book.pay(0, 60);
        due.is("by bills of the last", book.tax(99, 0), 20);
        due.is("by payments of the last", book.tax(99, 1), 10);
        due.is("by bills of the one ahead", book.tax(98, 0), 0);
        due.is("by payments of the first", book.tax(0, 1), 0);
    }

    private static void taxWay() {
        due.of(20, "`way`: 0 or 1, in place of the setting 4, or 2 for what was told as it was closed");
        for (int way : Books.outside(0, 2)) {
            due.refuses("tax(0, " + way + ")", -2, Books::withAll, b -> b.tax(0, way));
        }
        for (int setting = 0; setting <= 1; setting++) {
            InvoiceBook book = new InvoiceBook();
            book.set(4, setting);
            book.bill(0, 100, 20, 0);
            book.pay(0, 60);
            due.is("tax(0, 0)", book.tax(0, 0), 20);
            due.is("tax(0, 1)", book.tax(0, 1), 10);
            due.is("tax(0, 2)", book.tax(0, 2), -5);
        }
    }

    private static void taxErrorsInOrder() {
        due.of(20, "the tax; UNKNOWN; BAD_VALUE; NONE if way is 2, and it is not closed");
        due.is("tax(100, 3)", Books.withAll().tax(100, 3), -1);
        due.is("tax(-1, -1)", Books.withAll().tax(-1, -1), -1);
        due.is("tax(100, 2)", Books.withAll().tax(100, 2), -1);
        due.is("tax(1, 3)", Books.withAll().tax(1, 3), -2);
    }

    private static void taxNotClosed() {
        due.of(20, "NONE if way is 2, and it is not closed");
        due.is("of none", new InvoiceBook().tax(0, 2), -5);
        InvoiceBook book = Books.onDay(250);
        due.is("over and not closed", book.tax(0, 2), -5);
        book.closeYear(0);
        due.is("closed", book.tax(0, 2), 0);
        due.is("the next", book.tax(1, 2), -5);
        due.is("the last", book.tax(99, 2), -5);
        book.undo();
        due.is("taken back", book.tax(0, 2), -5);
    }

    private static void taxAsItIs() {
        due.of(20, "Tells the tax that is due for a year, as it is, or as it was when the year was closed.");
        InvoiceBook book = new InvoiceBook();
        due.is("no bill", book.tax(0, 0), 0);
        book.bill(0, 100, 20, 0);
        due.is("a bill", book.tax(0, 0), 20);
        book.bill(1, 50, 1, 0);
        due.is("another bill", book.tax(0, 0), 21);
        due.is("no payment", book.tax(0, 1), 0);
        book.payBill(0, 60);
        due.is("a payment", book.tax(0, 1), 10);
        Books.passTo(book, 100);
        book.payBill(0, 60);
        due.is("not of a later year", book.tax(0, 1), 10);
        due.is("of the later year", book.tax(1, 1), 10);
        book.closeYear(0);
        due.is("closed", book.tax(0, 2), 21);
        due.is("as it is by bills", book.tax(0, 0), 21);
        due.is("as it is by payments", book.tax(0, 1), 10);
    }

    private static void taxOfOneWrittenOff() {
        due.of(20, "the taxes of all bills that were written in it");
        InvoiceBook book = Books.withWriteOff();
        due.is("by bills", book.tax(0, 0), 20);
        due.is("by payments", book.tax(0, 1), 0);
        book.payBill(0, 135);
        due.is("by payments, with fees", book.tax(0, 1), 22);
    }

    private static void reasonBill() {
        due.of(21, "`bill`: a bill");
        due.refuses("of none", -1, InvoiceBook::new, b -> b.reason(0));
        for (int bill : Books.outside(0, 3)) {
            due.refuses("reason(" + bill + ")", -1, Books::withAll, b -> b.reason(bill));
        }
        due.is("the last", Books.withAllBills().reason(39), 3);
        due.is("behind the last", Books.withAllBills().reason(40), -1);
    }

    private static void reasonOverdue() {
        due.of(21, "3 it is not overdue");
        InvoiceBook book = new InvoiceBook();
        book.set(2, 1);
        book.bill(0, 100, 0, 4);
        due.is("as it is written", book.reason(0), 3);
        book.pass(4);
        due.is("on the day it is due", book.reason(0), 3);
        book.pass(1);
        due.is("a day later", book.reason(0), 0);
    }

    private static void reasonTooFewDays() {
        due.of(21, "5 too few days have gone by");
        InvoiceBook book = new InvoiceBook();
        book.bill(0, 100, 0, 0);
        book.pass(1);
        due.is("a day", book.reason(0), 5);
        book.pass(5);
        due.is("six days", book.reason(0), 5);
        book.pass(1);
        due.is("seven days", book.reason(0), 0);
        book.remind();
        due.is("as the first is sent", book.reason(0), 5);
        book.pass(6);
        due.is("six days", book.reason(0), 5);
        book.set(2, 6);
        due.is("by the setting", book.reason(0), 0);
    }

    private static void reasonThreeSent() {
        due.of(21, "4 three were sent");
        InvoiceBook book = Books.withThreeReminders();
        due.is("ahead of too few days", book.reason(0), 4);
        book.pass(99);
        due.is("with days enough", book.reason(0), 4);
    }

    private static void reasonWrittenOffAndPaid() {
        due.of(21, "the first that holds: 1 it is paid, 2 it is written off");
        InvoiceBook book = Books.withWriteOff();
        due.is("written off, with three sent", book.reason(0), 2);
        book.payBill(0, 134);
        due.is("with a coin owed", book.reason(0), 2);
        book.payBill(0, 1);
        due.is("paid, with three sent", book.reason(0), 1);
        book.bill(0, 1, 0, 99);
        book.pay(0, 1);
        due.is("paid ahead of the day it is due", book.reason(1), 1);
        book.pass(99);
        book.pass(99);
        due.is("paid, long behind", book.reason(1), 1);
    }

    private static void reasonIsWhatRemindDoes() {
        due.of(21, "0 if one would");
        InvoiceBook book = new InvoiceBook();
        book.bill(0, 100, 0, 3);
        for (int day = 0; day < 60; day++) {
            boolean sends = book.reason(0) == 0;
            due.is("remind() on the day " + day, book.remind(), sends ? 1 : -5);
            book.pass(1);
        }
        due.is("reminders", book.billOf(0, 11), 3);
    }

    private static void ifPaidCustomer() {
        due.of(22, "`customer`: 0 to 7");
        for (int customer : Books.outside(0, 7)) {
            due.refuses("ifPaid(" + customer + ", 1, 0)", -1, Books::withAll, b -> b.ifPaid(customer, 1, 0));
        }
        for (int customer = 0; customer <= 7; customer++) {
            due.is("ifPaid(" + customer + ", 98, 0)", Books.withAllBills().ifPaid(customer, 98, 0), 1);
        }
    }

    private static void ifPaidAmount() {
        due.of(22, "`amount`: 1 to 99999");
        for (int amount : Books.outside(1, 99999)) {
            due.refuses("ifPaid(0, " + amount + ", 0)", -2, Books::withAll, b -> b.ifPaid(0, amount, 0));
        }
        due.is("the least", Books.withAll().ifPaid(1, 1, 3), 259);
        due.is("the most", Books.withAll().ifPaid(1, 99999, 2), 99999 - 260);
    }

    private static void ifPaidWhat() {
        due.of(22, "`what`: 0 for how many bills would be paid, 1 for discounts that would be taken, "
            + "2 for the credit then, 3 for what would be owed on open ones then");
        for (int what : Books.outside(0, 3)) {
            due.refuses("ifPaid(0, 1, " + what + ")", -2, Books::withAll, b -> b.ifPaid(0, 1, what));
        }
        int[] want = {1, 1, 5, 0};
        for (int what = 0; what <= 3; what++) {
            due.is("ifPaid(0, 94, " + what + ")", Books.withAll().ifPaid(0, 94, what), want[what]);
        }
    }

    private static void ifPaidFull() {
        due.of(22, "FULL as for pay()");
        for (int what = 0; what <= 3; what++) {
            int asked = what;
            due.refuses("ifPaid(4, 1, " + what + ")", -3, () -> Books.withFullCredit(4), b -> b.ifPaid(4, 1, asked));
        }
        InvoiceBook book = new InvoiceBook();
        book.bill(4, 100, 0, 0);
        book.payBill(0, 98);
        for (int times = 0; times < 10; times++) {
            book.pay(4, 99999);
        }
        due.is("all that fits", book.ifPaid(4, 9, 2), 999999);
        due.is("a coin too many", book.ifPaid(4, 10, 2), -3);
        due.is("the most", book.ifPaid(4, 99999, 0), -3);
        due.is("another's fits", book.ifPaid(5, 99999, 2), 99999);
    }

    private static void ifPaidErrorsInOrder() {
        due.of(22, "the number; UNKNOWN; BAD_VALUE; FULL as for pay()");
        InvoiceBook book = Books.withFullCredit(4);
        due.is("ifPaid(8, 0, 4)", book.ifPaid(8, 0, 4), -1);
        due.is("ifPaid(-1, 1, 0)", book.ifPaid(-1, 1, 0), -1);
        due.is("ifPaid(4, 0, 0)", book.ifPaid(4, 0, 0), -2);
        due.is("ifPaid(4, 100000, 0)", book.ifPaid(4, 100000, 0), -2);
        due.is("ifPaid(4, 1, 4)", book.ifPaid(4, 1, 4), -2);
        due.is("ifPaid(4, 1, -1)", book.ifPaid(4, 1, -1), -2);
    }

    private static void ifPaidChangesNothing() {
        due.of(22, "Tells what a payment for the open bills of a customer would do.");
        InvoiceBook book = Books.withAll();
        for (int what = 0; what <= 3; what++) {
            book.ifPaid(0, 500, what);
            book.ifPaid(1, 100, what);
            book.ifPaid(2, 100, what);
        }
        due.same("ifPaid(..)", book, Books.withAll());
        InvoiceBook acts = Books.withAll();
        acts.ifPaid(0, 500, 0);
        acts.pay(1, 5);
        acts.ifPaid(0, 500, 0);
        InvoiceBook same = Books.withAll();
        same.pay(1, 5);
        due.same("ifPaid(..) and an act", acts, same);
    }

    private static InvoiceBook withSomeBills() {
        InvoiceBook book = new InvoiceBook();
        book.bill(1, 100, 0, 0);
        Books.passTo(book, 7);
        book.remind();
        book.bill(1, 50, 0, 3);
        book.bill(2, 70, 0, 3);
        book.bill(1, 200, 10, 3);
        book.payBill(1, 20);
        return book;
    }

    private static void ifPaidIsWhatPayDoes() {
        due.of(22, "Tells what a payment for the open bills of a customer would do.");
        for (int amount : new int[] {1, 29, 99, 100, 101, 128, 129, 130, 344, 345, 346, 500}) {
            InvoiceBook book = withSomeBills();
            int[] told = new int[4];
            for (int what = 0; what <= 3; what++) {
                told[what] = book.ifPaid(1, amount, what);
            }
            due.is("bills paid of " + amount, told[0], book.pay(1, amount));
            due.is("discounts of " + amount, told[1], book.count(11));
            due.is("credit of " + amount, told[2], book.customer(1, 3));
            due.is("owed behind " + amount, told[3], book.customer(1, 2));
        }
    }

    private static void settlesCustomer() {
        due.of(23, "`customer`: 0 to 7");
        for (int customer : Books.outside(0, 7)) {
            due.refuses("settles(" + customer + ")", -1, Books::withAll, b -> b.settles(customer));
        }
        for (int customer = 0; customer <= 7; customer++) {
            due.is("settles(" + customer + ")", Books.withAllBills().settles(customer), 5 * 98);
        }
    }

    private static void settlesNothing() {
        due.of(23, "the amount, 0 if nothing is owed");
        due.is("no bill", new InvoiceBook().settles(0), 0);
        due.is("credit alone", Books.withAll().settles(3), 0);
        due.is("written off", Books.withWriteOff().settles(2), 0);
        InvoiceBook book = new InvoiceBook();
        book.bill(0, 1, 0, 0);
        due.is("a coin", book.settles(0), 1);
        due.is("another's", book.settles(1), 0);
        book.pay(0, 1);
        due.is("paid", book.settles(0), 0);
    }

    private static void settlesLeast() {
        due.of(23, "Tells the least payment by which all open bills of a customer are paid");
        int least = withSomeBills().settles(1);
        due.is("settles(1)", least, 100 + 29 + 216);
        InvoiceBook book = withSomeBills();
        due.is("a coin less", book.pay(1, least - 1), 2);
        due.is("an open one", book.customer(1, 1), 1);
        InvoiceBook other = withSomeBills();
        due.is("as much", other.pay(1, least), 3);
        due.is("no open one", other.customer(1, 1), 0);
        due.is("no credit", other.customer(1, 3), 0);
        InvoiceBook credit = new InvoiceBook();
        credit.bill(0, 100, 0, 0);
        credit.bill(0, 100, 0, 0);
        credit.payBill(0, 150);
        due.is("beside credit", credit.settles(0), 98);
    }

    private static void settlesWithDiscounts() {
        due.of(23, "(with discounts, as they would be taken now)");
        InvoiceBook book = new InvoiceBook();
        book.bill(0, 100, 0, 99);
        book.pass(1);
        book.bill(0, 200, 0, 99);
        book.pass(9);
        due.is("two discounts", book.settles(0), 98 + 196);
        book.pass(1);
        due.is("one discount", book.settles(0), 100 + 196);
        book.pass(1);
        due.is("none", book.settles(0), 300);
        book.set(0, 12);
        due.is("by the setting 0", book.settles(0), 98 + 196);
        book.set(1, 20);
        due.is("by the setting 1", book.settles(0), 80 + 160);
        book.set(1, 0);
        due.is("without percents", book.settles(0), 300);
    }

    private static void settlesLargest() {
        due.of(23, "Tells the least payment by which all open bills of a customer are paid");
        InvoiceBook book = new InvoiceBook();
        for (int bill = 0; bill < 40; bill++) {
            book.bill(7, 9999, 40, 0);
        }
        due.is("of 40 bills", book.settles(7), 40 * (13999 - 279));
    }

    private static void nextReminderBill() {
        due.of(24, "`bill`: a bill");
        due.refuses("of none", -1, InvoiceBook::new, b -> b.nextReminder(0));
        for (int bill : Books.outside(0, 3)) {
            due.refuses("nextReminder(" + bill + ")", -1, Books::withAll, b -> b.nextReminder(bill));
        }
        due.is("the last", Books.withAllBills().nextReminder(39), 7);
        due.is("behind the last", Books.withAllBills().nextReminder(40), -1);
    }

    private static void nextReminderNone() {
        due.of(24, "NONE if none will be sent");
        due.is("paid", Books.withAll().nextReminder(1), -5);
        due.is("written off", Books.withAll().nextReminder(0), -5);
        due.is("three were sent", Books.withThreeReminders().nextReminder(0), -5);
        InvoiceBook book = new InvoiceBook();
        book.set(2, 1);
        book.bill(0, 100, 0, 0);
        for (int sent = 0; sent < 3; sent++) {
            due.is("with " + sent + " sent", book.nextReminder(0), sent + 1);
            book.pass(1);
            book.remind();
        }
        due.is("with three sent", book.nextReminder(0), -5);
    }

    private static void nextReminderBeyond() {
        due.of(24, "or the day would be beyond 9999");
        InvoiceBook book = Books.onDay(9980);
        book.bill(0, 100, 0, 12);
        book.bill(0, 100, 0, 13);
        due.is("the last day", book.nextReminder(0), 9999);
        due.is("a day beyond", book.nextReminder(1), -5);
        book.set(2, 8);
        due.is("beyond by the setting", book.nextReminder(0), -5);
        book.set(2, 6);
        due.is("the last day by the setting", book.nextReminder(1), 9999);
        InvoiceBook late = Books.onDay(9985);
        late.bill(0, 100, 0, 0);
        late.pass(7);
        late.remind();
        due.is("the second on the last day", late.nextReminder(0), 9999);
        late.undo();
        late.pass(1);
        late.remind();
        due.is("the second beyond", late.nextReminder(0), -5);
        late.undo();
        late.pass(6);
        due.is("now is the last day", late.nextReminder(0), 9999);
    }

    private static void nextReminderNow() {
        due.of(24, "the day (that of now if one would be sent now)");
        InvoiceBook book = new InvoiceBook();
        book.bill(0, 100, 0, 3);
        book.pass(10);
        due.is("just now", book.nextReminder(0), 10);
        book.pass(50);
        due.is("long behind", book.nextReminder(0), 60);
        book.remind();
        due.is("just sent", book.nextReminder(0), 67);
        book.pass(7);
        due.is("just now", book.nextReminder(0), 67);
        book.pass(1);
        due.is("a day behind", book.nextReminder(0), 68);
    }

    private static void nextReminderLater() {
        due.of(24, "Tells on which day the next reminder is to be sent for a bill, if nothing else is done.");
        InvoiceBook book = Books.onDay(4);
        book.bill(0, 100, 0, 0);
        book.bill(0, 100, 0, 99);
        due.is("due at once", book.nextReminder(0), 11);
        due.is("due late", book.nextReminder(1), 110);
        book.set(2, 1);
        due.is("a day behind", book.nextReminder(0), 5);
        book.set(2, 99);
        due.is("99 days behind", book.nextReminder(0), 103);
        due.is("99 days behind", book.nextReminder(1), 202);
    }

    private static void nextReminderIsWhenRemindSends() {
        due.of(24, "Tells on which day the next reminder is to be sent for a bill, if nothing else is done.");
        InvoiceBook book = new InvoiceBook();
        book.bill(0, 100, 0, 3);
        for (int sent = 1; sent <= 3; sent++) {
            int day = book.nextReminder(0);
            while (book.count(0) < day) {
                due.is("remind() too early", book.remind(), -5);
                due.is("nextReminder(0)", book.nextReminder(0), day);
                book.pass(1);
            }
            due.is("remind()", book.remind(), 1);
        }
        due.is("none is left", book.nextReminder(0), -5);
    }

    private static void worstNone() {
        due.of(25, "NONE if nothing is owed");
        due.is("no bill", new InvoiceBook().worst(), -5);
        due.is("written off", Books.withWriteOff().worst(), -5);
        InvoiceBook book = new InvoiceBook();
        book.bill(0, 1, 0, 0);
        due.is("a coin", book.worst(), 0);
        book.pay(0, 1);
        due.is("paid", book.worst(), -5);
        due.is("credit alone", Books.withFullCredit(3).worst(), -5);
    }

    private static void worstOfSeveral() {
        due.of(25, "of several the lowest");
        due.is("all the same", Books.withAllBills().worst(), 0);
        InvoiceBook book = new InvoiceBook();
        for (int customer = 7; customer >= 0; customer--) {
            book.bill(customer, 50, 0, 0);
            due.is("worst()", book.worst(), customer);
        }
        for (int customer = 0; customer <= 6; customer++) {
            book.payBill(7 - customer, 1);
            due.is("a coin less", book.worst(), customer + 1);
        }
        book.payBill(0, 1);
        due.is("all the same again", book.worst(), 0);
        book.bill(7, 1, 0, 0);
        due.is("a coin more", book.worst(), 7);
    }

    private static void worstOfOpenOnes() {
        due.of(25, "Finds the customer who owes most on open bills");
        InvoiceBook book = Books.withWriteOff();
        book.bill(5, 1, 0, 0);
        due.is("not what is written off", book.worst(), 5);
        book.bill(2, 2, 0, 0);
        due.is("what is open", book.worst(), 2);
        InvoiceBook sum = new InvoiceBook();
        sum.bill(1, 100, 0, 0);
        sum.bill(6, 60, 0, 0);
        sum.bill(6, 41, 0, 0);
        due.is("of several bills together", sum.worst(), 6);
    }

    private static void countWhat() {
        due.of(26, "0 for the day, 1 for bills, 2 for open ones, 3 for paid ones, 4 for those written off");
        for (int what : Books.outside(0, 21)) {
            due.refuses("count(" + what + ")", -2, Books::withAll, b -> b.count(what));
        }
        due.count(Books.withAll(), 107, 4, 2, 1, 1, 1, 350, 135, 70, 360, 34, 4, 15, 3, 1, 10, 2, 7, 5, 0, 4, 9);
    }

    private static void countOfHistoryAndText() {
        due.of(26, "20 for the states in the history, 21 for the length of the text");
        InvoiceBook book = new InvoiceBook();
        for (int acts = 0; acts <= 6; acts++) {
            due.is("count(20)", book.count(20), Math.min(4, acts));
            book.pass(1);
        }
        for (int length = 0; length <= 62; length++) {
            due.is("count(21)", book.count(21), Math.min(60, length));
            book.type('x');
        }
    }

    private static void countMost() {
        due.of(26, "8 for all credit, 9 for all that was paid by customers so far");
        InvoiceBook book = new InvoiceBook();
        for (int customer = 0; customer < 8; customer++) {
            Books.fillCredit(book, customer);
        }
        due.is("count(8)", book.count(8), 8 * 999999);
        due.is("count(9)", book.count(9), 8 * 999999);
        for (int customer = 0; customer < 8; customer++) {
            book.payBack(customer);
        }
        due.is("count(8)", book.count(8), 0);
        due.is("count(9)", book.count(9), 8 * 999999);
        due.is("count(10)", book.count(10), 8 * 999999);
    }

    private static void countPaidSoFar() {
        due.of(26, "9 for all that was paid by customers so far, 10 for what was paid back so far");
        InvoiceBook book = new InvoiceBook();
        book.pay(0, 50);
        book.pay(1, 30);
        book.payBack(0);
        book.bill(1, 20, 0, 0);
        book.pay(0, 7);
        due.is("count(9)", book.count(9), 87);
        due.is("count(10)", book.count(10), 50);
        due.is("count(8)", book.count(8), 17);
        book.payBack(0);
        book.payBack(1);
        due.is("count(9)", book.count(9), 87);
        due.is("count(10)", book.count(10), 67);
    }
}
