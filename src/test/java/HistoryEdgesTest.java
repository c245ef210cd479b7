import java.util.function.ToIntFunction;

/** Promises 15 to 17: a test of its own for each sentence of the document that names a boundary. */
public final class HistoryEdgesTest {
    private static final Due due = new Due();

    public static void main(String[] args) {
        undoNone();
        undoNoneBehindTheLast();
        undoOfOneToFour();
        undoBehindTheOldestIsDropped();
        undoRoundAndRound();
        undoOfEachAct();
        undoNotOfErrors();
        undoNotOfNone();
        undoNotOfWhatIsNoAct();
        undoLeavesTheText();
        undoLeavesTheSnapshot();
        undoLeavesTheStop();
        undoOfTheFullBook();
        undoOfWhatABillKeeps();
        keepTellsTheDay();
        keepInPlace();
        keepIsNoAct();
        keepIsApart();
        restoreNone();
        restoreStays();
        restoreIsAnAct();
        restoreLeavesTheRest();
        restoreOfTheSame();
        due.end();
    }

    private static void undoNone() {
        due.of(15, "NONE if the history is empty");
        due.refuses("undo()", -5, InvoiceBook::new, b -> b.undo());
        InvoiceBook book = new InvoiceBook();
        Books.type(book, "r");
        book.keep();
        book.pay(0, 0);
        due.is("without an act", book.undo(), -5);
    }

    private static void undoNoneBehindTheLast() {
        due.of(15, "NONE if the history is empty");
        InvoiceBook book = new InvoiceBook();
        book.pass(5);
        due.is("the only one", book.undo(), 0);
        due.is("day", book.count(0), 0);
        due.is("once more", book.undo(), -5);
        due.is("day", book.count(0), 0);
        book.pass(6);
        due.is("states", book.count(20), 1);
        due.is("the next one", book.undo(), 0);
    }

    private static void undoOfOneToFour() {
        due.of(15, "A history of at most 4 states is kept");
        for (int acts = 1; acts <= 4; acts++) {
            InvoiceBook book = new InvoiceBook();
            for (int act = 1; act <= acts; act++) {
                book.pass(act);
                due.is("states", book.count(20), act);
            }
            for (int left = acts - 1; left >= 0; left--) {
                due.is("undo()", book.undo(), left);
                due.is("day", book.count(0), left * (left + 1) / 2);
            }
            due.is("undo()", book.undo(), -5);
        }
    }

    private static void undoBehindTheOldestIsDropped() {
        due.of(15, "when one more is recorded, the oldest one is dropped");
        for (int acts = 5; acts <= 13; acts++) {
            InvoiceBook book = new InvoiceBook();
            for (int act = 1; act <= acts; act++) {
                book.pass(1);
            }
            due.is("states", book.count(20), 4);
            for (int left = 3; left >= 0; left--) {
                due.is("undo()", book.undo(), left);
                due.is("day", book.count(0), acts - 4 + left);
            }
            due.is("undo()", book.undo(), -5);
            due.is("day", book.count(0), acts - 4);
        }
    }

    private static void undoRoundAndRound() {
        due.of(15, "undo() removes and restores the latest one");
        InvoiceBook book = new InvoiceBook();
        int[] days = new int[60];
        int first = 0;
        int last = 0;
        for (int step = 0; step < 50; step++) {
            if (step % 7 < 5) {
                book.pass(1 + step % 3);
                last++;
                days[last] = days[last - 1] + 1 + step % 3;
                first = Math.max(first, last - 4);
            } else {
                due.is("undo()", book.undo(), last - 1 - first);
                last--;
            }
            due.is("day", book.count(0), days[last]);
            due.is("states", book.count(20), last - first);
        }
    }

    private static void act(String call, ToIntFunction<InvoiceBook> asks, int want, int day) {
        InvoiceBook book = Books.withThreeReminders();
        book.keep();
        book.set(3, 0);
        book.bill(0, 10, 0, 0);
        book.payBill(1, 20);
        Books.passTo(book, day);
        Books.type(book, "r");
        InvoiceBook same = Books.withThreeReminders();
        same.keep();
        same.set(3, 0);
        same.bill(0, 10, 0, 0);
        same.payBill(1, 20);
        Books.passTo(same, day);
        Books.type(same, "r");
        due.is(call, asks.applyAsInt(book), want);
        due.is("states behind " + call, book.count(20), 4);
        due.is("undo() of " + call, book.undo(), 3);
        // The oldest state is dropped by the act, so the other book gets rid of it by an act as well.
        same.pass(1);
        same.undo();
        due.same("undo() of " + call, book, same);
    }

    private static void undoOfEachAct() {
        due.of(15, "Each call of a method that is described as an act, and returns no error and not NONE, "
            + "records the state that was before it.");
        act("bill(..)", b -> b.bill(0, 100, 20, 14), 2, 40);
        act("pay(..)", b -> b.pay(2, 200), 1, 40);
        act("pay(..) that answers 0", b -> b.pay(7, 1), 0, 40);
        act("payBill(..)", b -> b.payBill(0, 5), 130, 40);
        act("payBill(..) that answers 0", b -> b.payBill(0, 135), 0, 40);
        act("payBack(..)", b -> b.payBack(0), 10, 40);
        act("pass(..)", b -> b.pass(1), 1, 40);
        act("writeOff(..)", b -> b.writeOff(0), 135, 40);
        act("closeYear(..)", b -> b.closeYear(0), 20, 140);
        act("set(..)", b -> b.set(0, 0), 10, 40);
        act("set(..) that answers 0", b -> b.set(3, 1), 0, 40);
        act("perform()", b -> b.perform(), 1, 40);
        act("restore()", b -> b.restore(), 26, 40);
        InvoiceBook book = new InvoiceBook();
        due.is("bill(..) that answers 0", book.bill(0, 10, 0, 0), 0);
        book.pass(7);
        due.is("remind()", book.remind(), 1);
        due.is("states", book.count(20), 3);
        due.is("undo()", book.undo(), 2);
        due.is("reminders", book.count(13), 0);
        due.is("undo()", book.undo(), 1);
        due.is("undo()", book.undo(), 0);
        due.is("bills", book.count(1), 0);
    }

    private static void undoNotOfErrors() {
        due.of(15, "A call that returns an error or NONE changes nothing");
        InvoiceBook book = Books.withAll();
        Books.type(book, "p7:1#30");
        int[] errors = {book.bill(8, 1, 0, 0), book.bill(0, 0, 0, 0), book.pay(8, 1), book.pay(0, 0),
            book.payBill(9, 1), book.payBill(2, 0), book.payBill(1, 1), book.payBack(8), book.pass(0),
            book.writeOff(9), book.writeOff(3), book.closeYear(100), book.closeYear(1), book.set(5, 0),
            book.set(0, 100), book.perform()};
        for (int error : errors) {
            due.is("an error", error < 0 && error != -5 ? 1 : 0, 1);
        }
        due.is("states", book.count(20), 4);
        InvoiceBook same = Books.withAll();
        Books.type(same, "p7:1#30");
        same.perform();
        due.same("errors", book, same);
    }

    private static void undoNotOfNone() {
        due.of(15, "A call that returns an error or NONE changes nothing");
        InvoiceBook book = Books.withAll();
        due.is("payBack(7)", book.payBack(7), -5);
        due.is("closeYear(0)", book.closeYear(0), -5);
        due.is("set(0, 10)", book.set(0, 10), -5);
        due.is("tax(1, 2)", book.tax(1, 2), -5);
        due.is("nextReminder(0)", book.nextReminder(0), -5);
        due.same("NONE", book, Books.withAll());
        InvoiceBook empty = new InvoiceBook();
        due.is("remind()", empty.remind(), -5);
        due.is("restore()", empty.restore(), -5);
        due.is("states", empty.count(20), 0);
    }

    private static void undoNotOfWhatIsNoAct() {
        due.of(15, "Each call of a method that is described as an act");
        InvoiceBook book = Books.withAll();
        book.type('x');
        book.clearText();
        book.stopped(0);
        book.keep();
        book.billOf(0, 0);
        book.customer(0, 0);
        book.tax(0, 0);
        book.reason(0);
        for (int what = 0; what <= 3; what++) {
            book.ifPaid(0, 500, what);
        }
        book.settles(0);
        book.nextReminder(2);
        book.worst();
        book.count(0);
        InvoiceBook same = Books.withAll();
        same.clearText();
        same.keep();
        due.same("what is no act", book, same);
    }

    private static void undoLeavesTheText() {
        due.of(15, "A state is everything but the text, the history, the snapshot and the latest stop.");
        InvoiceBook book = new InvoiceBook();
        book.pass(1);
        Books.type(book, "p0:5");
        book.pass(1);
        book.type('5');
        due.is("undo()", book.undo(), 1);
        due.is("length", book.count(21), 5);
        due.is("undo()", book.undo(), 0);
        due.is("perform()", book.perform(), 1);
        due.is("credit", book.customer(0, 3), 55);
        book.clearText();
        due.is("undo()", book.undo(), 0);
        due.is("length", book.count(21), 0);
    }

    private static void undoLeavesTheSnapshot() {
        due.of(15, "A state is everything but the text, the history, the snapshot and the latest stop.");
        InvoiceBook book = new InvoiceBook();
        book.pass(1);
        book.pass(2);
        book.keep();
        book.undo();
        book.undo();
        due.is("day", book.count(0), 0);
        due.is("restore()", book.restore(), 3);
        due.is("day", book.count(0), 3);
    }

    private static void undoLeavesTheStop() {
        due.of(15, "A state is everything but the text, the history, the snapshot and the latest stop.");
        InvoiceBook book = new InvoiceBook();
        book.pass(1);
        Books.perform(book, "p0:1#0");
        book.undo();
        due.is("number", book.stopped(0), 0);
        due.is("error", book.stopped(1), -1);
    }

    private static void undoOfTheFullBook() {
        due.of(15, "undo() removes and restores the latest one");
        InvoiceBook book = Books.withAllBills();
        for (int left = 3; left >= 0; left--) {
            due.is("undo()", book.undo(), left);
            due.is("bills", book.count(1), 36 + left);
            due.is("one that is gone", book.billOf(36 + left, 0), -1);
        }
        due.is("undo()", book.undo(), -5);
        book.bill(5, 70, 10, 3);
        due.bill(book, 36, 5, 70, 7, 77, 0, 3, 0, 0, 0, 0, 77, 0, -5, 0);
    }

    private static void undoOfWhatABillKeeps() {
        due.of(15, "undo() removes and restores the latest one");
        InvoiceBook book = new InvoiceBook();
        book.bill(0, 100, 20, 30);
        book.bill(0, 100, 40, 30);
        for (int times = 0; times < 5; times++) {
            book.pass(1);
            book.undo();
        }
        book.payBill(1, 14);
        due.is("tax by its rate", book.tax(0, 1), 4);
        due.is("its discount", book.settles(0), 118 + 138 - 14);
        Books.passTo(book, 37);
        book.remind();
        book.pass(3);
        book.undo();
        due.is("the day of its reminder", book.nextReminder(0), 44);
        due.is("the day of its payment", book.billOf(1, 12), 0);
    }

    private static void keepTellsTheDay() {
        due.of(16, "the day");
        due.is("on the first day", new InvoiceBook().keep(), 0);
        due.is("on the last day", Books.onDay(9999).keep(), 9999);
        due.is("on some day", Books.withAll().keep(), 107);
    }

    private static void keepInPlace() {
        due.of(16, "Takes a snapshot of the state, in place of the one that was.");
        InvoiceBook book = new InvoiceBook();
        for (int day = 1; day <= 3; day++) {
            book.pass(1);
            due.is("keep()", book.keep(), day);
        }
        book.pass(50);
        due.is("restore()", book.restore(), 3);
        book.undo();
        due.is("keep()", book.keep(), 53);
        due.is("restore()", book.restore(), 53);
    }

    private static void keepIsNoAct() {
        due.of(16, "Takes a snapshot of the state, in place of the one that was.");
        InvoiceBook book = new InvoiceBook();
        book.keep();
        due.is("states", book.count(20), 0);
        due.is("undo()", book.undo(), -5);
        book.pass(1);
        book.keep();
        due.is("undo()", book.undo(), 0);
        due.is("day", book.count(0), 0);
    }

    private static void keepIsApart() {
        due.of(16, "Takes a snapshot of the state");
        InvoiceBook book = Books.withAll();
        due.is("keep()", book.keep(), 107);
        book.bill(0, 10, 0, 0);
        book.pay(0, 99999);
        book.payBill(2, 10);
        book.payBill(0, 99);
        book.payBack(3);
        book.set(4, 1);
        book.set(1, 20);
        Books.passTo(book, 200);
        book.remind();
        book.closeYear(1);
        due.is("restore()", book.restore(), 107);
        InvoiceBook same = Books.withAll();
        for (int what = 0; what <= 19; what++) {
            due.is("count(" + what + ")", book.count(what), same.count(what));
        }
        for (int bill = 0; bill <= 4; bill++) {
            for (int what = 0; what <= 13; what++) {
                due.is("billOf(" + bill + ", " + what + ")", book.billOf(bill, what), same.billOf(bill, what));
            }
        }
        for (int year = 0; year <= 2; year++) {
            for (int way = 0; way <= 2; way++) {
                due.is("tax(" + year + ", " + way + ")", book.tax(year, way), same.tax(year, way));
            }
        }
    }

    private static void restoreNone() {
        due.of(17, "NONE if there is no snapshot");
        due.refuses("restore()", -5, InvoiceBook::new, b -> b.restore());
        due.refuses("restore()", -5, Books::withWriteOff, b -> b.restore());
    }

    private static void restoreStays() {
        due.of(17, "Restores the state of the snapshot, which stays.");
        InvoiceBook book = new InvoiceBook();
        book.pass(2);
        book.keep();
        for (int times = 1; times <= 6; times++) {
            book.pass(times);
            book.pay(1, times);
            due.is("restore()", book.restore(), 2);
            due.is("day", book.count(0), 2);
            due.is("credit", book.customer(1, 3), 0);
        }
    }

    private static void restoreIsAnAct() {
        due.of(17, "Restores the state of the snapshot, which stays. This is an act.");
        InvoiceBook book = new InvoiceBook();
        book.keep();
        book.pass(9);
        due.is("restore()", book.restore(), 0);
        due.is("states", book.count(20), 2);
        due.is("undo()", book.undo(), 1);
        due.is("day", book.count(0), 9);
        for (int times = 1; times <= 5; times++) {
            book.restore();
        }
        due.is("states", book.count(20), 4);
    }

    private static void restoreLeavesTheRest() {
        due.of(17, "A state is everything but the text, the history, the snapshot and the latest stop.");
        InvoiceBook book = new InvoiceBook();
        Books.type(book, "r");
        book.keep();
        Books.perform(book, "r;p0:1#0");
        book.pass(1);
        book.restore();
        due.is("length", book.count(21), 8);
        due.is("number", book.stopped(0), 1);
        due.is("error", book.stopped(1), -1);
        due.is("states", book.count(20), 2);
    }

    private static void restoreOfTheSame() {
        due.of(17, "the day then; NONE if there is no snapshot");
        InvoiceBook book = new InvoiceBook();
        due.is("keep()", book.keep(), 0);
        due.is("restore() of what is", book.restore(), 0);
        due.is("is recorded", book.count(20), 1);
        InvoiceBook late = Books.onDay(9999);
        late.keep();
        due.is("restore() on the last day", late.restore(), 9999);
    }
}
