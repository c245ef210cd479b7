/** Promises 18 to 26: what is told. */
public final class ToldTest {
    private static final Due due = new Due();

    public static void main(String[] args) {
        billOfTellsAll();
        customerTellsAll();
        taxTellsBothWays();
        reasonTellsTheFirst();
        ifPaidTellsAndChangesNothing();
        settlesIsTheLeast();
        nextReminderTellsTheDay();
        nextReminderTellsNone();
        worstOwesMost();
        countTellsAll();
        accountsAddUp();
        due.end();
    }

    private static void billOfTellsAll() {
        due.of(18);
        InvoiceBook book = Books.withThreeReminders();
        due.bill(book, 0, 2, 100, 20, 120, 0, 5, 0, 0, 0, 15, 135, 3, -5, 1);
        book.pay(2, 100);
        due.bill(book, 0, 2, 100, 20, 120, 0, 5, 0, 100, 0, 15, 35, 3, 26, 1);
        book.pass(8);
        book.writeOff(0);
        due.bill(book, 0, 2, 100, 20, 120, 0, 5, 2, 100, 0, 15, 35, 3, 26, 0);
        book.payBill(0, 35);
        due.bill(book, 0, 2, 100, 20, 120, 0, 5, 1, 135, 0, 15, 0, 3, 34, 0);
        book.bill(0, 200, 5, 1);
        book.pass(1);
        due.is("on the day it is due", book.billOf(1, 13), 0);
        book.pass(1);
        due.is("a day later", book.billOf(1, 13), 1);
        due.bill(book, 1, 0, 200, 10, 210, 34, 35, 0, 0, 0, 0, 210, 0, -5, 1);
        book.pay(0, 206);
        due.bill(book, 1, 0, 200, 10, 210, 34, 35, 1, 206, 4, 0, 0, 0, 36, 0);
    }

    private static void customerTellsAll() {
        due.of(19);
        InvoiceBook book = Books.withWriteOff();
        due.customer(book, 2, 1, 0, 0, 0, 0, 135, -5);
        book.bill(2, 100, 0, 0);
        book.bill(1, 70, 0, 0);
        book.bill(2, 200, 0, 0);
        due.customer(book, 2, 3, 2, 300, 0, 0, 135, 1);
        due.customer(book, 1, 1, 1, 70, 0, 0, 0, 2);
        book.payBill(1, 150);
        due.customer(book, 2, 3, 1, 200, 52, 150, 135, 3);
        book.payBill(0, 40);
        due.customer(book, 2, 3, 1, 200, 52, 190, 95, 3);
        book.payBack(2);
        due.customer(book, 2, 3, 1, 200, 0, 138, 95, 3);
        book.pay(2, 500);
        due.customer(book, 2, 3, 0, 0, 304, 638, 95, -5);
        due.customer(book, 0, 0, 0, 0, 0, 0, 0, -5);
    }

    private static void taxTellsBothWays() {
        due.of(20);
        InvoiceBook book = new InvoiceBook();
        book.pay(0, 60);
        due.is("credit is not paid to a bill", book.tax(0, 1), 0);
        Books.passTo(book, 100);
        book.bill(0, 100, 20, 0);
        due.is("by bills", book.tax(1, 0), 20);
        due.is("by payments", book.tax(1, 1), 10);
        due.is("not closed", book.tax(1, 2), -5);
        due.is("year 0", book.tax(0, 0), 0);
        due.is("year 0", book.tax(0, 1), 0);
        book.payBill(0, 5);
        book.payBill(0, 5);
        due.is("each rounded down", book.tax(1, 1), 10);
        book.payBill(0, 6);
        due.is("by payments", book.tax(1, 1), 11);
        Books.passTo(book, 200);
        book.pay(0, 24);
        due.is("of the day of the payment", book.tax(2, 1), 4);
        due.is("year 1", book.tax(1, 1), 11);
        book.bill(1, 100, 0, 0);
        book.pay(1, 100);
        due.is("without a rate", book.tax(2, 1), 4);
        due.is("a year ahead", book.tax(99, 0), 0);
        due.is("a year ahead", book.tax(99, 1), 0);
        book.closeYear(0);
        due.is("closed", book.tax(0, 2), 0);
        book.closeYear(1);
        due.is("closed", book.tax(1, 2), 20);
        due.is("not closed", book.tax(2, 2), -5);
        InvoiceBook other = Books.withWriteOff();
        due.is("one that is written off", other.tax(0, 0), 20);
        other.payBill(0, 66);
        due.is("paid all the same", other.tax(0, 1), 11);
    }

    private static void reasonTellsTheFirst() {
        due.of(21);
        InvoiceBook book = new InvoiceBook();
        book.bill(2, 100, 20, 5);
        due.is("not overdue", book.reason(0), 3);
        book.pass(5);
        due.is("on the day it is due", book.reason(0), 3);
        book.pass(1);
        due.is("too few days", book.reason(0), 5);
        book.pass(5);
        due.is("too few days", book.reason(0), 5);
        book.pass(1);
        due.is("would be sent", book.reason(0), 0);
        due.is("sends none", book.billOf(0, 11), 0);
        book.remind();
        due.is("too few days", book.reason(0), 5);
        book.pass(7);
        due.is("would be sent", book.reason(0), 0);
        book.remind();
        book.pass(7);
        book.remind();
        due.is("three were sent", book.reason(0), 4);
        book.pass(7);
        due.is("three were sent", book.reason(0), 4);
        book.writeOff(0);
        due.is("written off", book.reason(0), 2);
        book.payBill(0, 135);
        due.is("paid", book.reason(0), 1);
        book.bill(0, 1, 0, 0);
        book.pay(0, 1);
        due.is("paid ahead of not overdue", book.reason(1), 1);
    }

    private static void ifPaid(InvoiceBook book, int customer, int amount, int... want) {
        for (int what = 0; what < want.length; what++) {
            due.is("ifPaid(" + customer + ", " + amount + ", " + what + ")",
                book.ifPaid(customer, amount, what), want[what]);
        }
    }

    private static void ifPaidTellsAndChangesNothing() {
        due.of(22);
        InvoiceBook book = new InvoiceBook();
        ifPaid(book, 4, 500, 0, 0, 500, 0);
        book.bill(4, 100, 0, 0);
        book.bill(4, 200, 0, 0);
        book.bill(5, 900, 0, 0);
        ifPaid(book, 4, 1, 0, 0, 0, 299);
        ifPaid(book, 4, 97, 0, 0, 0, 203);
        ifPaid(book, 4, 98, 1, 2, 0, 200);
        ifPaid(book, 4, 293, 1, 2, 0, 5);
        ifPaid(book, 4, 294, 2, 6, 0, 0);
        ifPaid(book, 4, 300, 2, 6, 6, 0);
        ifPaid(book, 4, 99999, 2, 6, 99705, 0);
        due.customer(book, 4, 2, 2, 300, 0, 0, 0, 0);
        due.is("states", book.count(20), 3);
        due.is("discounts", book.count(11), 0);
        book.payBill(1, 250);
        ifPaid(book, 4, 50, 0, 0, 54, 50);
        ifPaid(book, 4, 100, 1, 2, 56, 0);
        book.undo();
        due.is("undo behind it", book.customer(4, 3), 0);
        book.keep();
        ifPaid(book, 4, 98, 1, 2, 0, 200);
        book.restore();
        due.is("owed", book.customer(4, 2), 300);
        InvoiceBook other = Books.withWriteOff();
        ifPaid(other, 2, 500, 0, 0, 500, 0);
    }

    private static void settlesIsTheLeast() {
        due.of(23);
        InvoiceBook book = new InvoiceBook();
        due.is("nothing owed", book.settles(0), 0);
        book.bill(0, 100, 0, 0);
        book.bill(0, 199, 0, 0);
        book.bill(1, 500, 0, 0);
        due.is("with discounts", book.settles(0), 98 + 196);
        due.is("a coin less", book.ifPaid(0, 293, 0), 1);
        due.is("as much", book.ifPaid(0, 294, 0), 2);
        book.payBill(0, 50);
        due.is("behind a part", book.settles(0), 48 + 196);
        book.pass(11);
        due.is("without discounts", book.settles(0), 50 + 199);
        book.bill(0, 100, 0, 0);
        due.is("with one of them", book.settles(0), 50 + 199 + 98);
        book.set(1, 20);
        book.payBill(0, 45);
        book.payBill(1, 195);
        due.is("with a greater one", book.settles(0), 5 + 4 + 80);
        book.pay(0, 89);
        due.is("settled", book.settles(0), 0);
        due.is("all are paid", book.customer(0, 1), 0);
        due.is("states", book.count(20), 4);
        InvoiceBook other = Books.withWriteOff();
        due.is("written off", other.settles(2), 0);
        other.set(1, 20);
        other.bill(2, 10, 0, 0);
        other.payBill(1, 7);
        other.set(1, 0);
        due.is("three coins", other.settles(2), 3);
        other.set(1, 20);
        due.is("a coin is left to pay", other.settles(2), 1);
        InvoiceBook full = new InvoiceBook();
        for (int i = 0; i < 40; i++) {
            full.bill(7, 9999, 40, 0);
        }
        due.is("more than one payment", full.settles(7), 40 * (13999 - 279));
    }

    private static void nextReminderTellsTheDay() {
        due.of(24);
        InvoiceBook book = new InvoiceBook();
        book.bill(2, 100, 20, 5);
        due.is("first", book.nextReminder(0), 12);
        book.pass(12);
        due.is("now", book.nextReminder(0), 12);
        book.pass(3);
        due.is("now, though late", book.nextReminder(0), 15);
        book.remind();
        due.is("second", book.nextReminder(0), 22);
        book.set(2, 99);
        due.is("by the setting", book.nextReminder(0), 114);
        book.set(2, 1);
        due.is("by the setting", book.nextReminder(0), 16);
        book.pass(4);
        book.remind();
        due.is("third", book.nextReminder(0), 20);
        book.pass(1);
        book.remind();
        due.is("none behind the third", book.nextReminder(0), -5);
        book.bill(0, 100, 0, 0);
        due.is("not on the day it is due", book.nextReminder(1), 21);
    }

    private static void nextReminderTellsNone() {
        due.of(24);
        InvoiceBook book = new InvoiceBook();
        book.bill(0, 100, 0, 0);
        book.pay(0, 98);
        due.is("paid", book.nextReminder(0), -5);
        InvoiceBook other = Books.withWriteOff();
        due.is("written off", other.nextReminder(0), -5);
        Books.passTo(book, 9990);
        book.bill(0, 100, 0, 2);
        book.bill(0, 100, 0, 3);
        due.is("the last day", book.nextReminder(1), 9999);
        due.is("beyond it", book.nextReminder(2), -5);
        book.bill(0, 100, 0, 99);
        due.is("due beyond it", book.nextReminder(3), -5);
        book.pass(9);
        due.is("now", book.nextReminder(1), 9999);
        book.remind();
        due.is("beyond it", book.nextReminder(1), -5);
    }

    private static void worstOwesMost() {
        due.of(25);
        InvoiceBook book = new InvoiceBook();
        due.is("nobody", book.worst(), -5);
        book.bill(5, 100, 0, 0);
        due.is("one", book.worst(), 5);
        book.bill(3, 100, 0, 0);
        due.is("of several the lowest", book.worst(), 3);
        book.bill(7, 101, 0, 0);
        due.is("the greatest", book.worst(), 7);
        book.bill(5, 2, 0, 0);
        due.is("of two bills", book.worst(), 5);
        book.payBill(0, 98);
        due.is("what is paid is not owed", book.worst(), 7);
        book.pay(7, 200);
        book.pay(3, 200);
        due.is("two coins", book.worst(), 5);
        book.pay(5, 200);
        due.is("nobody any more", book.worst(), -5);
        InvoiceBook other = Books.withThreeReminders();
        other.bill(6, 134, 0, 0);
        due.is("with fees", other.worst(), 2);
        other.pass(7);
        other.writeOff(0);
        due.is("not what is written off", other.worst(), 6);
        InvoiceBook zero = new InvoiceBook();
        zero.bill(0, 1, 0, 0);
        due.is("the customer 0", zero.worst(), 0);
    }

    private static void countTellsAll() {
        due.of(26);
        InvoiceBook book = Books.withThreeReminders();
        book.bill(0, 1000, 10, 0);
        book.bill(1, 100, 0, 99);
        book.bill(1, 50, 0, 99);
        book.pass(7);
        book.remind();
        book.writeOff(0);
        book.payBill(0, 30);
        book.payBill(2, 130);
        book.pay(0, 100);
        book.payBack(1);
        book.pay(4, 17);
        Books.type(book, "r;.");
        due.count(book, 33, 4, 2, 1, 1, 1, 1000 + 50, 105, 17, 30 + 130 + 100 + 17, 32, 2, 15, 4, 0,
            10, 2, 7, 5, 0, 4, 3);
        book.set(0, 1);
        book.set(1, 3);
        book.set(2, 4);
        book.set(3, 6);
        book.set(4, 1);
        book.pass(4);
        book.remind();
        Books.passTo(book, 300);
        book.closeYear(0);
        book.closeYear(1);
        due.count(book, 300, 4, 2, 1, 1, 2, 1000 + 50 + 6, 105, 17, 277, 32, 2, 21, 5, 2, 1, 3, 4, 6, 1, 4, 3);
    }

    private static void accountsAddUp() {
        due.of(26);
        InvoiceBook book = Books.withWriteOff();
        book.payBill(0, 50);
        for (int i = 0; i < 20; i++) {
            book.bill(i % 8, 100 + 37 * i, i, i);
            book.pay(i % 5, 90 * i + 1);
            book.pass(1 + i % 4);
            book.remind();
            book.payBack(i % 7);
        }
        int paid = 0;
        int discounts = 0;
        int fees = 0;
        int sums = 0;
        for (int bill = 0; bill < book.count(1); bill++) {
            paid += book.billOf(bill, 7);
            discounts += book.billOf(bill, 8);
            fees += book.billOf(bill, 9);
            sums += book.billOf(bill, 3);
        }
        due.is("paid", book.count(9) - book.count(10), paid + book.count(8));
        due.is("discounts", book.count(11), discounts);
        due.is("fees", book.count(12), fees);
        due.is("owed", book.count(6) + book.count(7), sums + fees - paid - discounts);
        due.is("bills", book.count(1), book.count(2) + book.count(3) + book.count(4));
    }
}
