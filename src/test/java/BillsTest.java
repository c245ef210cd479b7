/** Promises 1 to 5: a new object, bills, payments. */
public final class BillsTest {
    private static final Due due = new Due();

    public static void main(String[] args) {
        newBook();
        billIsWritten();
        billTakesCredit();
        payGoesToTheOldestFirst();
        payTakesDiscounts();
        payLeavesOthersAlone();
        payBillGoesToTheNamedOne();
        payBillOfOneWrittenOff();
        payBackReturnsCredit();
        due.end();
    }

    private static void newBook() {
        due.of(1);
        InvoiceBook book = new InvoiceBook();
        due.count(book, 0, 0, 0, 0, 0, 0, 0, 0, 0, 0, 0, 0, 0, 0, 0, 10, 2, 7, 5, 0, 0, 0);
        for (int customer = 0; customer < 8; customer++) {
            due.customer(book, customer, 0, 0, 0, 0, 0, 0, -5);
        }
        due.is("undo()", book.undo(), -5);
        due.is("restore()", book.restore(), -5);
        due.is("stopped(0)", book.stopped(0), -5);
        due.is("perform()", book.perform(), -100);
        due.is("worst()", book.worst(), -5);
        InvoiceBook other = new InvoiceBook();
        other.bill(0, 1, 0, 0);
        other.type('x');
        other.set(0, 0);
        other.keep();
        due.count(book, 0, 0, 0, 0, 0, 0, 0, 0, 0, 0, 0, 0, 0, 0, 0, 10, 2, 7, 5, 0, 0, 0);
        due.is("restore()", book.restore(), -5);
    }

    private static void billIsWritten() {
        due.of(2);
        InvoiceBook book = new InvoiceBook();
        book.pass(3);
        due.is("bill", book.bill(4, 250, 16, 21), 0);
        due.bill(book, 0, 4, 250, 40, 290, 3, 24, 0, 0, 0, 0, 290, 0, -5, 0);
        due.is("bill", book.bill(0, 1, 0, 0), 1);
        due.bill(book, 1, 0, 1, 0, 1, 3, 3, 0, 0, 0, 0, 1, 0, -5, 0);
        due.is("bill", book.bill(7, 9999, 40, 99), 2);
        due.bill(book, 2, 7, 9999, 4000, 13999, 3, 102, 0, 0, 0, 0, 13999, 0, -5, 0);
        due.is("states", book.count(20), 4);
    }

    private static void billTakesCredit() {
        due.of(2);
        InvoiceBook book = new InvoiceBook();
        book.pay(1, 300);
        book.pass(2);
        due.is("bill", book.bill(1, 100, 20, 0), 0);
        due.bill(book, 0, 1, 100, 20, 120, 2, 2, 1, 118, 2, 0, 0, 0, 2, 0);
        due.is("credit", book.customer(1, 3), 182);
        due.is("bill of another", book.bill(0, 100, 20, 0), 1);
        due.is("owed", book.billOf(1, 10), 120);
        due.is("bill more than the credit", book.bill(1, 200, 0, 0), 2);
        due.bill(book, 2, 1, 200, 0, 200, 2, 2, 0, 182, 0, 0, 18, 0, 2, 0);
        due.is("credit", book.customer(1, 3), 0);
        book.set(0, 0);
        book.pay(5, 98);
        due.is("bill with a discount of the same day", book.bill(5, 100, 0, 0), 3);
        due.bill(book, 3, 5, 100, 0, 100, 2, 2, 1, 98, 2, 0, 0, 0, 2, 0);
        book.pay(5, 97);
        due.is("bill with a coin too few", book.bill(5, 100, 0, 0), 4);
        due.bill(book, 4, 5, 100, 0, 100, 2, 2, 0, 97, 0, 0, 3, 0, 2, 0);
    }

    private static void payGoesToTheOldestFirst() {
        due.of(3);
        InvoiceBook book = new InvoiceBook();
        book.set(1, 0);
        book.bill(0, 100, 0, 50);
        book.bill(0, 50, 0, 0);
        book.pass(1);
        book.bill(0, 70, 0, 10);
        due.is("part of the first", book.pay(0, 30), 0);
        due.bill(book, 0, 0, 100, 0, 100, 0, 50, 0, 30, 0, 0, 70, 0, 1, 0);
        due.is("the rest of it and a part of the second", book.pay(0, 80), 1);
        due.is("first", book.billOf(0, 6), 1);
        due.is("second", book.billOf(1, 10), 40);
        due.is("third", book.billOf(2, 12), -5);
        due.is("all of it", book.pay(0, 110), 2);
        due.is("no credit", book.customer(0, 3), 0);
        due.is("no bill left", book.pay(0, 5), 0);
        due.is("credit", book.customer(0, 3), 5);
        due.is("more credit", book.pay(0, 7), 0);
        due.is("credit", book.customer(0, 3), 12);
    }

    private static void payTakesDiscounts() {
        due.of(3);
        InvoiceBook book = new InvoiceBook();
        book.bill(0, 100, 0, 50);
        book.bill(0, 199, 0, 50);
        due.is("a coin too few", book.pay(0, 97), 0);
        due.is("no discount", book.billOf(0, 8), 0);
        due.is("the whole discount in the end", book.pay(0, 1 + 196), 2);
        due.is("discount", book.billOf(0, 8), 2);
        due.is("discount, rounded down", book.billOf(1, 8), 3);
        due.is("paid", book.billOf(1, 7), 196);
        book.bill(1, 100, 0, 50);
        book.pass(10);
        due.is("on the last day", book.pay(1, 98), 1);
        book.undo();
        book.pass(1);
        due.is("a day too late", book.pay(1, 98), 0);
        due.is("owed", book.billOf(2, 10), 2);
        book.set(0, 11);
        due.is("by a later setting", book.pay(1, 1), 1);
        due.is("discount", book.billOf(2, 8), 1);
        book.bill(3, 100, 0, 0);
        book.set(2, 1);
        book.pass(1);
        book.remind();
        due.is("no discount behind a reminder", book.pay(3, 98), 0);
        due.is("owed", book.billOf(3, 10), 2);
    }

    private static void payLeavesOthersAlone() {
        due.of(3);
        InvoiceBook book = Books.withWriteOff();
        book.bill(3, 100, 0, 0);
        due.is("pay", book.pay(2, 500), 0);
        due.is("written off", book.billOf(0, 10), 135);
        due.is("another's", book.billOf(1, 10), 100);
        due.is("credit", book.customer(2, 3), 500);
        book.payBill(1, 300);
        due.is("credit beside an open bill", book.customer(3, 3), 202);
        book.bill(5, 100, 0, 0);
        book.bill(5, 100, 0, 0);
        book.payBill(3, 200);
        due.is("a payment leaves credit alone", book.pay(5, 50), 0);
        due.is("owed", book.billOf(2, 10), 50);
        due.is("credit", book.customer(5, 3), 102);
    }

    private static void payBillGoesToTheNamedOne() {
        due.of(4);
        InvoiceBook book = new InvoiceBook();
        book.bill(1, 100, 0, 0);
        book.bill(1, 200, 0, 0);
        book.pass(4);
        due.is("part", book.payBill(1, 50), 150);
        due.is("all but one coin", book.payBill(1, 145), 5);
        book.undo();
        due.bill(book, 1, 1, 200, 0, 200, 0, 0, 0, 50, 0, 0, 150, 0, 4, 1);
        due.is("the rest with the discount", book.payBill(1, 146), 0);
        due.bill(book, 1, 1, 200, 0, 200, 0, 0, 1, 196, 4, 0, 0, 0, 4, 0);
        due.is("the other", book.billOf(0, 10), 100);
        book.set(1, 0);
        due.is("all but one coin", book.payBill(0, 99), 1);
        due.is("still open", book.billOf(0, 6), 0);
        book.undo();
        book.undo();
        due.is("too much", book.payBill(0, 200), 0);
        due.is("credit", book.customer(1, 3), 102);
        due.is("paid so far", book.customer(1, 4), 396);
    }

    private static void payBillOfOneWrittenOff() {
        due.of(4);
        InvoiceBook book = Books.withWriteOff();
        due.is("part", book.payBill(0, 35), 100);
        due.bill(book, 0, 2, 100, 20, 120, 0, 5, 2, 35, 0, 15, 100, 3, 33, 0);
        book.pass(1);
        due.is("rest", book.payBill(0, 110), 0);
        due.bill(book, 0, 2, 100, 20, 120, 0, 5, 1, 135, 0, 15, 0, 3, 34, 0);
        due.is("credit", book.customer(2, 3), 10);
        due.is("paid now", book.payBill(0, 1), -4);
    }

    private static void payBackReturnsCredit() {
        due.of(5);
        InvoiceBook book = new InvoiceBook();
        due.is("nothing there", book.payBack(0), -5);
        due.is("states", book.count(20), 0);
        book.pay(0, 70);
        book.pay(7, 30);
        due.is("payBack(0)", book.payBack(0), 70);
        due.is("credit", book.customer(0, 3), 0);
        due.is("credit of the other", book.customer(7, 3), 30);
        due.is("again", book.payBack(0), -5);
        due.is("paid back", book.count(10), 70);
        due.is("paid so far", book.customer(0, 4), 0);
        due.is("states", book.count(20), 3);
    }
}
