/** Promises 11 to 14: typing, texts of days, stops. */
public final class TextsTest {
    private static final Due due = new Due();

    public static void main(String[] args) {
        typeAddsBehind();
        clearTextEmpties();
        faultsOfBills();
        faultsOfPayments();
        faultsOfOthers();
        everyCharacterIsAllowedInItsPlaceAlone();
        performDoesAll();
        performTakesWhatIsUsual();
        performIsOneAct();
        performPassesByWhatIsNone();
        stoppedTellsTheLatest();
        due.end();
    }

    private static void typeAddsBehind() {
        due.of(11);
        InvoiceBook book = new InvoiceBook();
        for (int length = 1; length <= 60; length++) {
            due.is("type", book.type((char) (length * 1000)), length);
        }
        due.is("the 61st", book.type('b'), -3);
        due.is("length", book.count(21), 60);
        due.is("states", book.count(20), 0);
        InvoiceBook other = new InvoiceBook();
        due.is("type(0)", other.type((char) 0), 1);
        due.is("perform", other.perform(), -100);
        other.clearText();
        due.is("type(0xFFFF)", other.type((char) 0xFFFF), 1);
        due.is("perform", other.perform(), -100);
        other.clearText();
        other.type('r');
        due.is("type('r' + 256)", other.type((char) ('r' + 256)), 2);
        due.is("perform", other.perform(), -101);
        Books.type(other, "r;r;r;r;r;r;r;r;r;r;r;r;r;r;r;r;r;r;r;r;r;r;r;r;r;r;r;r;r;.9");
        due.is("60 signs", other.perform(), 30);
        Books.type(other, "r;r;r;r;r;r;r;r;r;r;r;r;r;r;r;r;r;r;r;r;r;r;r;r;r;r;r;r;r;r;");
        due.is("60 signs, too early", other.perform(), -160);
    }

    private static void clearTextEmpties() {
        due.of(12);
        InvoiceBook book = new InvoiceBook();
        due.is("empty", book.clearText(), 0);
        Books.type(book, "p1:5");
        due.is("four", book.clearText(), 4);
        due.is("length", book.count(21), 0);
        due.is("empty", book.clearText(), 0);
        due.is("perform", book.perform(), -100);
        due.is("states", book.count(20), 0);
        due.is("type again", book.type('r'), 1);
        due.is("perform", book.perform(), 1);
    }

    private static void fault(String text, int at) {
        InvoiceBook book = new InvoiceBook();
        due.is("perform of " + text, Books.perform(book, text), -100 - at);
        due.is("states behind " + text, book.count(20), 0);
        due.is("stop behind " + text, book.stopped(0), -5);
        due.is("length behind " + text, book.count(21), text.length());
    }

    private static void good(String text, int things) {
        InvoiceBook book = new InvoiceBook();
        due.is("perform of " + text, Books.perform(book, text), things);
    }

    private static void faultsOfBills() {
        due.of(13);
        fault("b", 1);
        fault("b8", 1);
        fault("b8:5", 1);
        fault("b00:5", 2);
        fault("b12:5", 2);
        fault("b0", 2);
        fault("b0;", 2);
        fault("b0:", 3);
        fault("b0:0", 3);
        fault("b0:01", 3);
        fault("b0:x", 3);
        fault("b0:10000", 7);
        fault("b0:5@", 5);
        fault("b0:5@;", 5);
        fault("b0:5@41", 6);
        fault("b0:5@100", 7);
        fault("b0:5@00", 6);
        fault("b0:5@07", 6);
        fault("b0:5@-1", 5);
        fault("b0:5+", 5);
        fault("b0:5+100", 7);
        fault("b0:5+00", 6);
        fault("b0:5+3@20", 6);
        fault("b0:5@20@20", 7);
        fault("b0:5+3+3", 6);
        fault("b0:5#0", 4);
        fault("B0:5", 0);
        fault(" b0:5", 0);
        fault("b 0:5", 1);
        fault("b0:5 ", 4);
        good("b0:9999@40+99", 1);
        good("b7:1@0+0", 1);
        good("b7:1+0", 1);
        good("b7:1@39", 1);
        good("b7:9999@5", 1);
    }

    private static void faultsOfPayments() {
        due.of(13);
        fault("p", 1);
        fault("p1", 2);
        fault("p1:", 3);
        fault("p1:0", 3);
        fault("p1:100000", 8);
        fault("p9:1", 1);
        fault("p1:5@2", 4);
        fault("p1:5+2", 4);
        fault("p1:5#", 5);
        fault("p1:5#40", 6);
        fault("p1:5#400", 6);
        fault("p1:5#00", 6);
        fault("p1:5#0#0", 6);
        fault("p1:5#x", 5);
        fault("p1:5;", 5);
        fault("p1:5;;", 5);
        fault("p1:5;b", 6);
        InvoiceBook book = new InvoiceBook();
        due.is("the bill 39 is not there", Books.perform(book, "p1:5#39"), -4);
        due.is("unknown", book.stopped(1), -1);
        Books.type(book, "p1:555");
        due.is("what was there before is gone", Books.perform(book, "p1:5"), 1);
        due.is("credit", book.customer(1, 3), 5);
        Books.type(book, "p1:555");
        due.is("what was there before is gone", Books.perform(book, "p1:"), -103);
        good("p0:99999", 1);
        good("p7:1;p7:99999", 2);
        good("b1:9;p1:9#0", 2);
    }

    private static void faultsOfOthers() {
        due.of(13);
        fault("", 0);
        fault(";", 0);
        fault("r;", 2);
        fault("rr", 1);
        fault("r1", 1);
        fault(".", 1);
        fault(".0", 1);
        fault(".100", 3);
        fault(".9;.", 4);
        fault("..", 1);
        fault("r;;r", 2);
        fault("x", 0);
        fault("0", 0);
        good("r", 1);
        good(".1", 1);
        good(".99", 1);
        good("r;r;r", 3);
    }

    private static void everyCharacterIsAllowedInItsPlaceAlone() {
        due.of(13);
        String known = "bpr.0123456789:@+#;";
        for (char sign = 0; sign < 400; sign++) {
            boolean start = sign == 'b' || sign == 'p' || sign == '.';
            InvoiceBook book = new InvoiceBook();
            int want = sign == 'r' ? 1 : start ? -101 : -100;
            due.is("perform of the sign " + (int) sign, Books.perform(book, "" + sign), want);
            if (known.indexOf(sign) < 0) {
                due.is("p1:1 and the sign " + (int) sign, Books.perform(book, "p1:1" + sign), -104);
                due.is("b1: and the sign " + (int) sign, Books.perform(book, "b1:" + sign), -103);
            }
        }
    }

    private static void performDoesAll() {
        due.of(13);
        InvoiceBook book = new InvoiceBook();
        due.is("perform", Books.perform(book, "b3:100@10+2;b3:50;p3:40#1;.9;r;p3:500"), 6);
        due.bill(book, 0, 3, 100, 10, 110, 0, 2, 1, 110, 0, 0, 0, 1, 9, 0);
        due.bill(book, 1, 3, 50, 10, 60, 0, 14, 1, 59, 1, 0, 0, 0, 9, 0);
        due.is("credit", book.customer(3, 3), 500 - 110 - 19);
        due.is("day", book.count(0), 9);
        due.is("the text stays", book.count(21), 37);
        due.is("again", book.perform(), -4);
    }

    private static void performTakesWhatIsUsual() {
        due.of(13);
        InvoiceBook book = new InvoiceBook();
        due.is("perform", Books.perform(book, "b1:100;b2:100@5;b3:100+5;b4:100@0+0"), 4);
        due.bill(book, 0, 1, 100, 20, 120, 0, 14);
        due.bill(book, 1, 2, 100, 5, 105, 0, 14);
        due.bill(book, 2, 3, 100, 20, 120, 0, 5);
        due.bill(book, 3, 4, 100, 0, 100, 0, 0);
    }

    private static void performIsOneAct() {
        due.of(13);
        InvoiceBook book = new InvoiceBook();
        book.pass(1);
        due.is("perform", Books.perform(book, "b1:100;p1:20;.5;.6;r"), 5);
        due.is("states", book.count(20), 2);
        due.is("undo", book.undo(), 1);
        due.is("day", book.count(0), 1);
        due.is("bills", book.count(1), 0);
        due.is("text", book.count(21), 20);
    }

    private static void performPassesByWhatIsNone() {
        due.of(13);
        InvoiceBook book = new InvoiceBook();
        due.is("nothing to remind", Books.perform(book, "r"), 1);
        due.is("is an act", book.count(20), 1);
        due.is("goes on", Books.perform(book, "r;.3;r;b0:1"), 4);
        due.is("bills", book.count(1), 1);
    }

    private static void stoppedTellsTheLatest() {
        due.of(14);
        InvoiceBook book = new InvoiceBook();
        for (int what : new int[] {-1, 2, Integer.MIN_VALUE, Integer.MAX_VALUE}) {
            due.is("stopped(" + what + ")", book.stopped(what), -2);
        }
        due.is("nothing yet", book.stopped(0), -5);
        due.is("nothing yet", book.stopped(1), -5);
        Books.perform(book, "p8");
        due.is("a fault is no stop", book.stopped(1), -5);
        Books.perform(book, "r;p1:5#3");
        due.is("number", book.stopped(0), 1);
        due.is("error", book.stopped(1), -1);
        due.is("still a bad value", book.stopped(2), -2);
        Books.perform(book, "r;b1:5;b1:");
        due.is("a fault leaves it", book.stopped(0), 1);
        Books.perform(book, "b1:5");
        due.is("what is done leaves it", book.stopped(1), -1);
        book.undo();
        due.is("undo leaves it", book.stopped(1), -1);
        book.keep();
        Books.perform(book, "b1:5;p1:5;p0:5#0");
        book.restore();
        due.is("restore leaves it", book.stopped(0), 2);
        due.is("error", book.stopped(1), -4);
        book.remind();
        book.payBill(9, 1);
        due.is("other errors are no stops", book.stopped(1), -4);
    }
}
