/** Promises 1 to 5: a test of its own for each sentence of the document that names a boundary. */
public final class BillEdgesTest {
    private static final Due due = new Due();

    public static void main(String[] args) {
        aNewBookIsEmpty();
        aNewBookHasNoText();
        aNewBookHasNoHistory();
        aNewBookHasNoSnapshot();
        aNewBookHasTheFirstSettings();
        aNewBookSharesNothing();
        billCustomer();
        billNet();
        billRate();
        billDue();
        billFull();
        billFullOfPaidOnes();
        billErrorsInOrder();
        billTaxHalfUp();
        billTakesCreditThatIsEnough();
        billTakesCreditThatIsTooLittle();
        billWithoutCredit();
        payCustomer();
        payAmount();
        payFull();
        payFullOfWhatIsLeft();
        payErrorsInOrder();
        payOldestFirst();
        payAsMuchAsIsLeft();
        payEndsWithNothingLeft();
        payWithoutOpenBills();
        payNotToOneWrittenOff();
        discountWithoutReminder();
        discountDays();
        discountDaysOfTheSetting();
        discountWithWhatIsLeft();
        discountRoundedDown();
        discountOfTheSum();
        discountLeavesACoin();
        payBillBill();
        payBillAmount();
        payBillPaid();
        payBillFull();
        payBillErrorsInOrder();
        payBillOfOneWrittenOff();
        payBillTooMuch();
        payBackCustomer();
        payBackNone();
        payBackLeastAndMost();
        payBackAddsUp();
        due.end();
    }

    private static void aNewBookIsEmpty() {
        due.of(1, "Creates an empty book, on the day 0.");
        InvoiceBook book = new InvoiceBook();
        for (int what = 0; what <= 14; what++) {
            due.is("count(" + what + ")", book.count(what), 0);
        }
        due.is("billOf(0, 0)", book.billOf(0, 0), -1);
        due.is("worst()", book.worst(), -5);
        due.is("stopped(0)", book.stopped(0), -5);
        for (int customer = 0; customer < 8; customer++) {
            due.customer(book, customer, 0, 0, 0, 0, 0, 0, -5);
        }
        for (int year = 0; year < 100; year++) {
            due.is("tax(" + year + ", 0)", book.tax(year, 0), 0);
            due.is("tax(" + year + ", 1)", book.tax(year, 1), 0);
            due.is("tax(" + year + ", 2)", book.tax(year, 2), -5);
        }
    }

    private static void aNewBookHasNoText() {
        due.of(1, "There is a text of at most 60 characters, empty at first.");
        InvoiceBook book = new InvoiceBook();
        due.is("count(21)", book.count(21), 0);
        due.is("perform()", book.perform(), -100);
        due.is("clearText()", book.clearText(), 0);
        due.is("type('r')", book.type('r'), 1);
    }

    private static void aNewBookHasNoHistory() {
        due.of(1, "NONE if the history is empty");
        InvoiceBook book = new InvoiceBook();
        due.is("count(20)", book.count(20), 0);
        due.is("undo()", book.undo(), -5);
    }

    private static void aNewBookHasNoSnapshot() {
        due.of(1, "There is one snapshot, empty at first.");
        due.is("restore()", new InvoiceBook().restore(), -5);
    }

    private static void aNewBookHasTheFirstSettings() {
        due.of(1, "At first the setting 4 is 0.");
        InvoiceBook book = new InvoiceBook();
        int[] first = {10, 2, 7, 5, 0};
        for (int which = 0; which < first.length; which++) {
            due.is("count(" + (15 + which) + ")", book.count(15 + which), first[which]);
        }
    }

    private static void aNewBookSharesNothing() {
        due.of(1, "Creates an empty book, on the day 0.");
        Books.withAll();
        due.same("another book", new InvoiceBook(), new InvoiceBook());
        InvoiceBook one = Books.withAll();
        InvoiceBook other = new InvoiceBook();
        other.pay(5, 5);
        due.is("a payment of the other", one.customer(5, 3), 0);
        due.is("a stop of the one", other.stopped(0), -5);
        due.is("a snapshot of the one", other.restore(), -5);
        due.is("a text of the one", other.count(21), 0);
    }

    private static void billCustomer() {
        due.of(2, "`customer`: 0 to 7");
        for (int customer : Books.outside(0, 7)) {
            due.refuses("bill(" + customer + ", 1, 0, 0)", -1, Books::withAll, b -> b.bill(customer, 1, 0, 0));
        }
        InvoiceBook book = new InvoiceBook();
        for (int customer = 0; customer <= 7; customer++) {
            due.is("bill(" + customer + ", 1, 0, 0)", book.bill(customer, 1, 0, 0), customer);
            due.is("its customer", book.billOf(customer, 0), customer);
        }
    }

    private static void billNet() {
        due.of(2, "`net`: 1 to 9999");
        for (int net : Books.outside(1, 9999)) {
            due.refuses("bill(0, " + net + ", 20, 14)", -2, Books::withAll, b -> b.bill(0, net, 20, 14));
        }
        InvoiceBook book = new InvoiceBook();
        due.is("the least", book.bill(0, 1, 20, 14), 0);
        due.is("the most", book.bill(0, 9999, 20, 14), 1);
        due.is("the least", book.billOf(0, 1), 1);
        due.is("the most", book.billOf(1, 1), 9999);
    }

    private static void billRate() {
        due.of(2, "`rate`: 0 to 40");
        for (int rate : Books.outside(0, 40)) {
            due.refuses("bill(0, 100, " + rate + ", 14)", -2, Books::withAll, b -> b.bill(0, 100, rate, 14));
        }
        InvoiceBook book = new InvoiceBook();
        due.is("the least", book.bill(0, 100, 0, 14), 0);
        due.is("the most", book.bill(0, 100, 40, 14), 1);
        due.is("the least tax", book.billOf(0, 2), 0);
        due.is("the most tax", book.billOf(1, 2), 40);
    }

    private static void billDue() {
        due.of(2, "`due`: 0 to 99: days until it is due");
        for (int days : Books.outside(0, 99)) {
            due.refuses("bill(0, 100, 20, " + days + ")", -2, Books::withAll, b -> b.bill(0, 100, 20, days));
        }
        InvoiceBook book = new InvoiceBook();
        due.is("the least", book.bill(0, 100, 20, 0), 0);
        due.is("the most", book.bill(0, 100, 20, 99), 1);
        due.is("due at once", book.billOf(0, 5), 0);
        due.is("due late", book.billOf(1, 5), 99);
        Books.passTo(book, 9999);
        book.bill(0, 100, 20, 99);
        due.is("due behind the last day", book.billOf(2, 5), 10098);
    }

    private static void billFull() {
        due.of(2, "FULL if 40 were written");
        InvoiceBook book = new InvoiceBook();
        for (int number = 0; number < 40; number++) {
            due.is("bill(..)", book.bill(number % 8, 1, 0, 0), number);
        }
        due.is("the 41st", book.bill(0, 1, 0, 0), -3);
        due.is("again", book.bill(0, 1, 0, 0), -3);
        due.refuses("the 41st", -3, Books::withAllBills, b -> b.bill(7, 9999, 40, 99));
        due.is("undo()", book.undo(), 3);
        due.is("one is taken back", book.bill(0, 1, 0, 0), 39);
        due.is("the 41st", book.bill(0, 1, 0, 0), -3);
    }

    private static void billFullOfPaidOnes() {
        due.of(2, "At most 40 bills are written ever, numbered from 0.");
        InvoiceBook book = Books.withAllBills();
        for (int customer = 0; customer < 8; customer++) {
            book.pay(customer, 500);
        }
        due.is("paid ones", book.count(3), 40);
        due.is("bill(..)", book.bill(0, 1, 0, 0), -3);
        due.is("no credit is taken", book.customer(0, 3), 500 - 5 * 98);
    }

    private static void billErrorsInOrder() {
        due.of(2, "its number; UNKNOWN; BAD_VALUE; FULL if 40 were written");
        due.refuses("bill(8, 0, 0, 0)", -1, Books::withAllBills, b -> b.bill(8, 0, 0, 0));
        due.refuses("bill(-1, 1, 41, 0)", -1, Books::withAllBills, b -> b.bill(-1, 1, 41, 0));
        due.refuses("bill(8, 1, 0, 100)", -1, Books::withAllBills, b -> b.bill(8, 1, 0, 100));
        due.refuses("bill(8, 1, 0, 0)", -1, Books::withAllBills, b -> b.bill(8, 1, 0, 0));
        due.refuses("bill(7, 0, 0, 0)", -2, Books::withAllBills, b -> b.bill(7, 0, 0, 0));
        due.refuses("bill(7, 1, 41, 0)", -2, Books::withAllBills, b -> b.bill(7, 1, 41, 0));
        due.refuses("bill(7, 1, 0, 100)", -2, Books::withAllBills, b -> b.bill(7, 1, 0, 100));
    }

    private static void billTaxHalfUp() {
        due.of(2, "Its tax is the net amount times the rate, divided by 100, rounded half up");
        int[][] taxes = {{1, 0, 0}, {1, 40, 0}, {2, 24, 0}, {2, 25, 1}, {2, 26, 1}, {3, 16, 0}, {3, 17, 1}, {50, 1, 1},
            {49, 1, 0}, {149, 1, 1}, {150, 1, 2}, {5, 30, 2}, {9998, 25, 2500}, {9999, 40, 4000}, {9999, 39, 3900},
            {9950, 1, 100}, {9949, 1, 99}};
        for (int[] tax : taxes) {
            InvoiceBook book = new InvoiceBook();
            book.bill(0, tax[0], tax[1], 0);
            due.is("tax of " + tax[0] + " by " + tax[1], book.billOf(0, 2), tax[2]);
            due.is("sum of " + tax[0] + " by " + tax[1], book.billOf(0, 3), tax[0] + tax[2]);
        }
    }

    private static void billTakesCreditThatIsEnough() {
        due.of(2, "A new bill takes of the customer's credit, as it is written, as a payment does that names it "
            + "(with the discount); what is left stays credit.");
        InvoiceBook book = new InvoiceBook();
        book.pay(1, 98);
        book.bill(1, 100, 0, 0);
        due.bill(book, 0, 1, 100, 0, 100, 0, 0, 1, 98, 2, 0, 0, 0, 0, 0);
        due.is("nothing left", book.customer(1, 3), 0);
        book.pay(1, 99);
        book.bill(1, 100, 0, 0);
        due.bill(book, 1, 1, 100, 0, 100, 0, 0, 1, 98, 2, 0, 0, 0, 0, 0);
        due.is("a coin left", book.customer(1, 3), 1);
        Books.fillCredit(book, 2);
        book.bill(2, 9999, 40, 0);
        due.is("of the most credit", book.customer(2, 3), 999999 - (13999 - 279));
    }

    private static void billTakesCreditThatIsTooLittle() {
        due.of(2, "A new bill takes of the customer's credit, as it is written, as a payment does that names it "
            + "(with the discount); what is left stays credit.");
        InvoiceBook book = new InvoiceBook();
        book.pay(1, 97);
        book.bill(1, 100, 0, 0);
        due.bill(book, 0, 1, 100, 0, 100, 0, 0, 0, 97, 0, 0, 3, 0, 0, 0);
        due.is("nothing left", book.customer(1, 3), 0);
        book.pay(3, 1);
        book.bill(3, 9999, 40, 0);
        due.is("a coin is paid", book.billOf(1, 7), 1);
        due.is("nothing left", book.customer(3, 3), 0);
    }

    private static void billWithoutCredit() {
        due.of(2, "A new bill takes of the customer's credit, as it is written, as a payment does that names it "
            + "(with the discount); what is left stays credit.");
        InvoiceBook book = new InvoiceBook();
        book.pay(0, 500);
        book.bill(1, 1, 0, 0);
        due.bill(book, 0, 1, 1, 0, 1, 0, 0, 0, 0, 0, 0, 1, 0, -5, 0);
        due.is("another's stays", book.customer(0, 3), 500);
        due.is("none comes of it", book.customer(1, 3), 0);
    }

    private static void payCustomer() {
        due.of(3, "`customer`: 0 to 7");
        for (int customer : Books.outside(0, 7)) {
            due.refuses("pay(" + customer + ", 1)", -1, Books::withAll, b -> b.pay(customer, 1));
        }
        InvoiceBook book = new InvoiceBook();
        for (int customer = 0; customer <= 7; customer++) {
            due.is("pay(" + customer + ", ..)", book.pay(customer, customer + 1), 0);
        }
        for (int customer = 0; customer <= 7; customer++) {
            due.is("credit of " + customer, book.customer(customer, 3), customer + 1);
        }
    }

    private static void payAmount() {
        due.of(3, "`amount`: 1 to 99999");
        for (int amount : Books.outside(1, 99999)) {
            due.refuses("pay(0, " + amount + ")", -2, Books::withAll, b -> b.pay(0, amount));
        }
        InvoiceBook book = new InvoiceBook();
        due.is("the least", book.pay(0, 1), 0);
        due.is("the most", book.pay(1, 99999), 0);
        due.is("credit", book.customer(0, 3), 1);
        due.is("credit", book.customer(1, 3), 99999);
    }

    private static void payFull() {
        due.of(3, "FULL if the credit would be above 999999");
        InvoiceBook book = new InvoiceBook();
        for (int times = 1; times <= 10; times++) {
            due.is("pay(4, 99999)", book.pay(4, 99999), 0);
        }
        due.is("ten coins too many", book.pay(4, 10), -3);
        due.is("all that fits", book.pay(4, 9), 0);
        due.is("a coin too many", book.pay(4, 1), -3);
        due.is("the most too many", book.pay(4, 99999), -3);
        due.is("another's fits", book.pay(5, 99999), 0);
        due.is("credit", book.customer(4, 3), 999999);
        due.refuses("pay(4, 1)", -3, () -> Books.withFullCredit(4), b -> b.pay(4, 1));
        book.payBack(4);
        due.is("fits again", book.pay(4, 99999), 0);
    }

    private static void payFullOfWhatIsLeft() {
        due.of(3, "FULL if the credit would be above 999999");
        due.refuses("a coin too many", -3, Books::withFullCreditAndAnOpenBill, b -> b.pay(4, 99));
        InvoiceBook book = Books.withFullCreditAndAnOpenBill();
        due.is("credit", book.customer(4, 3), 999999);
        due.is("what is owed", book.pay(4, 98), 1);
        due.is("credit", book.customer(4, 3), 999999);
        book.undo();
        due.is("less than is owed", book.pay(4, 50), 0);
        due.is("owed", book.billOf(11, 10), 50);
    }

    private static void payErrorsInOrder() {
        due.of(3, "how many bills are paid by it; UNKNOWN; BAD_VALUE; FULL if the credit would be above 999999");
        due.refuses("pay(8, 0)", -1, () -> Books.withFullCredit(4), b -> b.pay(8, 0));
        due.refuses("pay(-1, 1)", -1, () -> Books.withFullCredit(4), b -> b.pay(-1, 1));
        due.refuses("pay(4, 0)", -2, () -> Books.withFullCredit(4), b -> b.pay(4, 0));
        due.refuses("pay(4, 100000)", -2, () -> Books.withFullCredit(4), b -> b.pay(4, 100000));
    }

    private static void payOldestFirst() {
        due.of(3, "the oldest first (by their days, of the same day by their numbers)");
        InvoiceBook book = new InvoiceBook();
        book.set(1, 0);
        book.bill(1, 10, 0, 99);
        book.bill(1, 10, 0, 0);
        book.bill(6, 10, 0, 0);
        book.pass(1);
        book.bill(1, 10, 0, 0);
        due.is("to the first", book.pay(1, 4), 0);
        due.is("owed", book.billOf(0, 10), 6);
        due.is("to the first and the second", book.pay(1, 7), 1);
        due.is("owed", book.billOf(1, 10), 9);
        due.is("to the second and the one of the next day", book.pay(1, 11), 1);
        due.is("owed", book.billOf(3, 10), 8);
        due.is("another's", book.billOf(2, 10), 10);
    }

    private static InvoiceBook withTwoOpenBills() {
        InvoiceBook book = new InvoiceBook();
        book.set(1, 0);
        book.bill(3, 100, 0, 0);
        book.bill(3, 50, 0, 0);
        return book;
    }

    private static void payAsMuchAsIsLeft() {
        due.of(3, "It pays what is owed on a bill, or as much of it as is left of the payment.");
        int[][] payments = {{1, 0, 99, 50, 0}, {99, 0, 1, 50, 0}, {100, 1, 0, 50, 0}, {101, 1, 0, 49, 0},
            {149, 1, 0, 1, 0}, {150, 2, 0, 0, 0}, {151, 2, 0, 0, 1}};
        for (int[] payment : payments) {
            InvoiceBook book = withTwoOpenBills();
            due.is("pay(3, " + payment[0] + ")", book.pay(3, payment[0]), payment[1]);
            due.is("owed on the first behind " + payment[0], book.billOf(0, 10), payment[2]);
            due.is("owed on the second behind " + payment[0], book.billOf(1, 10), payment[3]);
            due.is("credit behind " + payment[0], book.customer(3, 3), payment[4]);
            due.is("paid ones behind " + payment[0], book.count(3), payment[1]);
        }
    }

    private static void payEndsWithNothingLeft() {
        due.of(3, "or as much of it as is left of the payment");
        InvoiceBook book = withTwoOpenBills();
        book.pass(1);
        book.pay(3, 100);
        due.bill(book, 1, 3, 50, 0, 50, 0, 0, 0, 0, 0, 0, 50, 0, -5, 1);
        InvoiceBook small = new InvoiceBook();
        small.bill(0, 1, 0, 0);
        small.bill(0, 1, 0, 0);
        due.is("of two bills of a coin", small.pay(0, 1), 1);
        due.is("the second", small.billOf(1, 6), 0);
    }

    private static void payWithoutOpenBills() {
        due.of(3, "What is left behind all of them is the customer's credit, which is added to what is there.");
        InvoiceBook book = new InvoiceBook();
        due.is("no bill", book.pay(2, 30), 0);
        due.is("credit", book.customer(2, 3), 30);
        due.is("again", book.pay(2, 1), 0);
        due.is("credit", book.customer(2, 3), 31);
        book.bill(2, 5, 0, 0);
        due.is("all are paid", book.pay(2, 4), 0);
        due.is("credit", book.customer(2, 3), 30);
    }

    private static void payNotToOneWrittenOff() {
        due.of(3, "Nothing of a payment without a named bill goes to a bill that is written off.");
        InvoiceBook book = Books.withWriteOff();
        due.is("pay(2, 135)", book.pay(2, 135), 0);
        due.is("owed", book.billOf(0, 10), 135);
        due.is("day of the latest payment", book.billOf(0, 12), -5);
        due.is("credit", book.customer(2, 3), 135);
    }

    private static void discountWithoutReminder() {
        due.of(3, "A discount is taken with a payment if no reminder was sent for the bill");
        InvoiceBook book = new InvoiceBook();
        book.set(0, 99);
        book.set(2, 1);
        book.bill(0, 100, 0, 0);
        book.pass(1);
        due.is("not reminded", book.pay(0, 98), 1);
        book.undo();
        book.remind();
        due.is("reminded", book.pay(0, 99), 0);
        due.is("owed", book.billOf(0, 10), 1);
        due.is("all of it", book.pay(0, 1), 1);
        due.is("discount", book.billOf(0, 8), 0);
    }

    private static void discountDays() {
        due.of(3, "at most as many days have gone by since it was written as the setting 0 tells "
            + "(0 to 99; 10 at first)");
        for (int written : new int[] {0, 5, 9989}) {
            InvoiceBook book = Books.onDay(written);
            book.bill(0, 100, 0, 0);
            book.pass(10);
            due.is("on the last day", book.pay(0, 98), 1);
            due.is("discount", book.billOf(0, 8), 2);
        }
        InvoiceBook late = Books.onDay(5);
        late.bill(0, 100, 0, 50);
        late.pass(11);
        due.is("a day later", late.pay(0, 98), 0);
        due.is("settles(0)", late.settles(0), 2);
    }

    private static void discountDaysOfTheSetting() {
        due.of(3, "at most as many days have gone by since it was written as the setting 0 tells "
            + "(0 to 99; 10 at first)");
        for (int days : new int[] {0, 1, 98, 99}) {
            InvoiceBook book = new InvoiceBook();
            book.set(0, days);
            book.bill(0, 100, 0, 99);
            Books.passTo(book, days);
            due.is("on the day " + days, book.settles(0), 98);
            due.is("on the day " + days, book.ifPaid(0, 98, 1), 2);
            book.pass(1);
            due.is("behind the day " + days, book.settles(0), 100);
            due.is("behind the day " + days, book.ifPaid(0, 98, 1), 0);
        }
    }

    private static void discountWithWhatIsLeft() {
        due.of(3, "what is left of the payment, and the discount, are together at least what is owed");
        for (int paid = 97; paid <= 101; paid++) {
            InvoiceBook book = new InvoiceBook();
            book.bill(0, 100, 0, 0);
            boolean enough = paid >= 98;
            due.is("pay(0, " + paid + ")", book.pay(0, paid), enough ? 1 : 0);
            due.is("discount of " + paid, book.billOf(0, 8), enough ? 2 : 0);
            due.is("owed behind " + paid, book.billOf(0, 10), enough ? 0 : 3);
            due.is("credit behind " + paid, book.customer(0, 3), enough ? paid - 98 : 0);
        }
    }

    private static void discountRoundedDown() {
        due.of(3, "the discount is the sum times the setting 1 (0 to 20 percent; 2 at first), "
            + "divided by 100, rounded down");
        int[][] discounts = {{2, 49, 0}, {2, 50, 1}, {2, 99, 1}, {2, 100, 2}, {2, 9999, 199}, {0, 9999, 0},
            {1, 99, 0}, {1, 100, 1}, {20, 4, 0}, {20, 5, 1}, {20, 9, 1}, {20, 10, 2}, {20, 9999, 1999}};
        for (int[] discount : discounts) {
            InvoiceBook book = new InvoiceBook();
            book.set(1, discount[0]);
            book.bill(0, discount[1], 0, 0);
            book.pay(0, 10000);
            due.is(discount[0] + " percent of " + discount[1], book.billOf(0, 8), discount[2]);
        }
    }

    private static void discountOfTheSum() {
        due.of(3, "the discount is the sum times the setting 1");
        InvoiceBook book = new InvoiceBook();
        book.set(1, 20);
        book.bill(0, 9999, 40, 0);
        book.payBill(0, 1000);
        due.is("of the net amount and the tax", book.settles(0), 13999 - 2799 - 1000);
        due.is("not of what is owed", book.ifPaid(0, 10199, 0), 0);
        due.is("a coin more", book.ifPaid(0, 10200, 1), 2799);
    }

    private static void discountLeavesACoin() {
        due.of(3, "but at most one coin less than what is owed");
        int[][] owed = {{22, 20}, {21, 20}, {20, 19}, {2, 1}, {1, 0}};
        for (int[] one : owed) {
            InvoiceBook book = new InvoiceBook();
            book.bill(0, 100, 0, 0);
            book.set(1, 0);
            book.payBill(0, 100 - one[0]);
            book.set(1, 20);
            due.is("settles(0) of " + one[0], book.settles(0), one[0] - one[1]);
            due.is("pay(0, ..) of " + one[0], book.pay(0, one[0] - one[1]), 1);
            due.is("discount of " + one[0], book.billOf(0, 8), one[1]);
        }
    }

    private static void payBillBill() {
        due.of(4, "`bill`: a bill");
        due.refuses("of none", -1, InvoiceBook::new, b -> b.payBill(0, 1));
        for (int bill : Books.outside(0, 3)) {
            due.refuses("payBill(" + bill + ", 1)", -1, Books::withAll, b -> b.payBill(bill, 1));
        }
        due.refuses("payBill(40, 1)", -1, Books::withAllBills, b -> b.payBill(40, 1));
        due.is("the last", Books.withAllBills().payBill(39, 1), 99);
        due.is("the first", Books.withAllBills().payBill(0, 1), 99);
        InvoiceBook book = Books.withAll();
        book.bill(0, 1, 0, 0);
        book.undo();
        due.is("one that was taken back", book.payBill(4, 1), -1);
    }

    private static void payBillAmount() {
        due.of(4, "`amount`: 1 to 99999");
        for (int amount : Books.outside(1, 99999)) {
            due.refuses("payBill(2, " + amount + ")", -2, Books::withAll, b -> b.payBill(2, amount));
        }
        due.is("the least", Books.withAll().payBill(2, 1), 259);
        InvoiceBook book = Books.withAll();
        due.is("the most", book.payBill(2, 99999), 0);
        due.is("credit", book.customer(1, 3), 99999 - 260);
    }

    private static void payBillPaid() {
        due.of(4, "NOT_POSSIBLE if it is paid");
        due.refuses("paid with a discount", -4, Books::withAll, b -> b.payBill(1, 1));
        InvoiceBook book = new InvoiceBook();
        book.pay(0, 98);
        book.bill(0, 100, 0, 0);
        due.is("paid of credit", book.payBill(0, 1), -4);
        book.set(1, 0);
        book.bill(0, 100, 0, 0);
        due.is("a coin is missing", book.payBill(1, 99), 1);
        due.is("not yet paid", book.payBill(1, 1), 0);
        due.is("paid", book.payBill(1, 1), -4);
        InvoiceBook late = Books.withWriteOff();
        late.payBill(0, 135);
        due.is("paid behind a write-off", late.payBill(0, 1), -4);
    }

    private static void payBillFull() {
        due.of(4, "FULL if the credit would be above 999999");
        due.refuses("a coin too many", -3, Books::withFullCreditAndAnOpenBill, b -> b.payBill(11, 99));
        due.refuses("the most", -3, Books::withFullCreditAndAnOpenBill, b -> b.payBill(11, 99999));
        InvoiceBook book = Books.withFullCreditAndAnOpenBill();
        due.is("what is owed", book.payBill(11, 98), 0);
        due.is("credit", book.customer(4, 3), 999999);
        InvoiceBook room = new InvoiceBook();
        for (int times = 0; times < 10; times++) {
            room.bill(5, 10, 0, 0);
        }
        room.bill(5, 10, 0, 0);
        for (int bill = 0; bill < 10; bill++) {
            room.payBill(bill, 99999);
        }
        due.is("credit", room.customer(5, 3), 999990 - 100);
        due.is("a coin too many", room.payBill(10, 10 + 110), -3);
        due.is("all that fits", room.payBill(10, 10 + 109), 0);
        due.is("credit", room.customer(5, 3), 999999);
    }

    private static void payBillErrorsInOrder() {
        due.of(4, "what is owed on it then; UNKNOWN; BAD_VALUE; NOT_POSSIBLE if it is paid; "
            + "FULL if the credit would be above 999999");
        due.refuses("payBill(12, 0)", -1, Books::withFullCreditAndAnOpenBill, b -> b.payBill(12, 0));
        due.refuses("payBill(-1, 100000)", -1, Books::withFullCreditAndAnOpenBill, b -> b.payBill(-1, 100000));
        due.refuses("payBill(0, 0)", -2, Books::withFullCreditAndAnOpenBill, b -> b.payBill(0, 0));
        due.refuses("payBill(0, 100000)", -2, Books::withFullCreditAndAnOpenBill, b -> b.payBill(0, 100000));
        due.refuses("payBill(11, 100000)", -2, Books::withFullCreditAndAnOpenBill, b -> b.payBill(11, 100000));
        due.refuses("payBill(0, 99999)", -4, Books::withFullCreditAndAnOpenBill, b -> b.payBill(0, 99999));
    }

    private static void payBillOfOneWrittenOff() {
        due.of(4, "the bill is paid if nothing is owed any more, otherwise it stays written off");
        InvoiceBook book = Books.withWriteOff();
        due.is("all but a coin", book.payBill(0, 134), 1);
        due.is("stays written off", book.billOf(0, 6), 2);
        due.is("owed on those written off", book.customer(2, 5), 1);
        due.is("the last coin", book.payBill(0, 1), 0);
        due.is("is paid", book.billOf(0, 6), 1);
        due.is("credit", book.customer(2, 3), 0);
        InvoiceBook much = Books.withWriteOff();
        due.is("a coin too many", much.payBill(0, 136), 0);
        due.is("is paid", much.billOf(0, 6), 1);
        due.is("credit", much.customer(2, 3), 1);
        due.is("no discount", much.billOf(0, 8), 0);
    }

    private static void payBillTooMuch() {
        due.of(4, "Takes a payment for one bill; what is left is credit of its customer.");
        InvoiceBook book = new InvoiceBook();
        book.set(1, 0);
        book.bill(3, 100, 0, 0);
        book.bill(3, 100, 0, 0);
        due.is("a coin too many", book.payBill(1, 101), 0);
        due.is("credit", book.customer(3, 3), 1);
        due.is("the other bill", book.billOf(0, 10), 100);
        due.is("just as much", book.payBill(0, 100), 0);
        due.is("credit", book.customer(3, 3), 1);
    }

    private static void payBackCustomer() {
        due.of(5, "`customer`: 0 to 7");
        for (int customer : Books.outside(0, 7)) {
            due.refuses("payBack(" + customer + ")", -1, Books::withAll, b -> b.payBack(customer));
        }
        InvoiceBook book = new InvoiceBook();
        for (int customer = 0; customer <= 7; customer++) {
            book.pay(customer, customer + 1);
        }
        for (int customer = 0; customer <= 7; customer++) {
            due.is("payBack(" + customer + ")", book.payBack(customer), customer + 1);
        }
    }

    private static void payBackNone() {
        due.of(5, "NONE if there is no credit");
        due.refuses("of none ever", -5, Books::withAll, b -> b.payBack(7));
        due.refuses("of what was paid back", -5, Books::withAll, b -> b.payBack(0));
        InvoiceBook book = Books.withAll();
        book.bill(3, 100, 0, 0);
        due.is("of what a bill took", book.payBack(3), -5);
    }

    private static void payBackLeastAndMost() {
        due.of(5, "how many coins");
        InvoiceBook book = new InvoiceBook();
        book.pay(0, 1);
        due.is("the least", book.payBack(0), 1);
        Books.fillCredit(book, 0);
        due.is("the most", book.payBack(0), 999999);
        due.is("nothing left", book.payBack(0), -5);
    }

    private static void payBackAddsUp() {
        due.of(5, "Pays credit back.");
        InvoiceBook book = new InvoiceBook();
        for (int times = 1; times <= 3; times++) {
            book.pay(times, 10 * times);
            book.payBack(times);
        }
        due.is("paid back so far", book.count(10), 60);
        due.is("paid so far", book.count(9), 60);
        due.is("credit", book.count(8), 0);
    }
}
