/** Promises 11 to 14: a test of its own for each sentence of the document that names a boundary. */
public final class TextEdgesTest {
    private static final Due due = new Due();

    /** The longest text that is good: 30 things in 59 characters. */
    private static final String THIRTY = "r;r;r;r;r;r;r;r;r;r;r;r;r;r;r;r;r;r;r;r;r;r;r;r;r;r;r;r;r;r";

    public static void main(String[] args) {
        typeAnyCharacter();
        typeFull();
        typeFullKeepsTheText();
        clearEmptyText();
        clearFullText();
        clearLongerText();
        performEmptyText();
        performEndsTooEarly();
        performEndsTooEarlyBehindAnother();
        performCharacterOutOfPlace();
        performCharactersAlike();
        performCustomers();
        performNetAmounts();
        performRates();
        performDueDays();
        performAmounts();
        performBills();
        performDays();
        performZeroInFront();
        performDigitTooMuch();
        performRateAheadOfDays();
        performUsualRate();
        performUsualDueDays();
        performThingsBetweenSemicolons();
        performFullText();
        performFaultIsAnError();
        performFaultAheadOfStop();
        performAllOrNothing();
        performStoppedByNoBill();
        performStoppedByAnothersBill();
        performStoppedByAPaidBill();
        performStoppedByFullBills();
        performStoppedByFullCredit();
        performStoppedByTheLastDay();
        performOfNone();
        performIsOneAct();
        performKeepsTheText();
        performCountsThings();
        performEachByEach();
        stoppedWhat();
        stoppedNone();
        stoppedErrorsInOrder();
        stoppedFirstAndLast();
        stoppedLatest();
        due.end();
    }

    private static InvoiceBook withText(String text) {
        InvoiceBook book = new InvoiceBook();
        Books.type(book, text);
        return book;
    }

    private static InvoiceBook withAllAndText(String text) {
        InvoiceBook book = Books.withAll();
        Books.type(book, text);
        return book;
    }

    private static void fault(String text, int at) {
        due.is("perform() of " + text, withText(text).perform(), -100 - at);
    }

    /** The text has no fault; things that are not possible in an empty book stop it. */
    private static void good(String text, int things) {
        due.is("perform() of " + text, withText(text).perform(), things);
    }

    private static void stops(String text, InvoiceBook book, int number, int error) {
        Books.type(book, text);
        due.is("perform() of " + text, book.perform(), -4);
        due.is("number in " + text, book.stopped(0), number);
        due.is("error of " + text, book.stopped(1), error);
    }

    private static void typeAnyCharacter() {
        due.of(11, "`character`: any character");
        char[] characters = {0, 1, ' ', 'r', 127, 128, 255, 256, 0x7FFF, 0x8000, 0xD800, 0xFFFF};
        for (char character : characters) {
            InvoiceBook book = new InvoiceBook();
            due.is("type of " + (int) character, book.type(character), 1);
            due.is("type of " + (int) character, book.type(character), 2);
            due.is("length", book.count(21), 2);
            due.is("states", book.count(20), 0);
        }
    }

    private static void typeFull() {
        due.of(11, "FULL if it has 60 characters");
        InvoiceBook book = new InvoiceBook();
        for (int length = 1; length <= 60; length++) {
            due.is("type", book.type('x'), length);
        }
        due.is("the 61st", book.type('x'), -3);
        due.is("once more", book.type('r'), -3);
        due.is("length", book.count(21), 60);
        due.is("clearText()", book.clearText(), 60);
        due.is("there is room again", book.type('r'), 1);
    }

    private static void typeFullKeepsTheText() {
        due.of(11, "FULL if it has 60 characters");
        due.refuses("type('x')", -3, () -> withText(THIRTY + "x"), b -> b.type('x'));
        InvoiceBook book = withText(THIRTY.substring(2) + ";.9");
        due.is("the 60th stays", book.perform(), 30);
        book.type('0');
        due.is("the 61st is not there", book.perform(), 30);
        due.is("day", book.count(0), 18);
    }

    private static void clearEmptyText() {
        due.of(12, "the length that it had");
        InvoiceBook book = new InvoiceBook();
        due.is("an empty one", book.clearText(), 0);
        due.is("again", book.clearText(), 0);
        book.type('r');
        due.is("of a character", book.clearText(), 1);
        due.is("length", book.count(21), 0);
        due.is("empty again", book.clearText(), 0);
        due.is("nothing to perform", book.perform(), -100);
    }

    private static void clearFullText() {
        due.of(12, "the length that it had");
        InvoiceBook book = withText(THIRTY + ";");
        due.is("a full one", book.clearText(), 60);
        due.is("length", book.count(21), 0);
        due.is("nothing of it is left", book.perform(), -100);
        book.type('.');
        due.is("nothing of it is left", book.perform(), -101);
        book.type('5');
        due.is("nothing of it is left", book.perform(), 1);
    }

    private static void clearLongerText() {
        due.of(12, "Empties the text.");
        String[] longer = {"p1:555", ".999", "b1:5@20+30", "p1:5#39", "r;r;r", "p1:5;.5"};
        String[] texts = {"p1:5", ".9", "b1:5@2", "p1:5", "r", "p1:5;"};
        int[] answers = {1, 1, 1, 1, 1, -105};
        for (int i = 0; i < texts.length; i++) {
            for (int length = 1; length <= texts[i].length(); length++) {
                InvoiceBook book = withText(longer[i]);
                Books.type(book, texts[i].substring(0, length));
                InvoiceBook other = withText(texts[i].substring(0, length));
                due.is(texts[i] + " behind " + longer[i], book.perform(), other.perform());
                due.same(texts[i] + " behind " + longer[i], book, other);
            }
            InvoiceBook book = withText(longer[i]);
            due.is(texts[i] + " behind " + longer[i], Books.perform(book, texts[i]), answers[i]);
        }
    }

    private static void performEmptyText() {
        due.of(13, "or the length of the text if it ends too early (the empty text does)");
        due.refuses("perform()", -100, () -> withAllAndText(""), b -> b.perform());
    }

    private static void performEndsTooEarly() {
        due.of(13, "or the length of the text if it ends too early");
        for (String text : new String[] {"b", "b7", "b7:", "b7:9@", "b7:9+", "b7:9@4+", "b7:9999@40+", "p", "p7",
            "p7:", "p7:9#", "p7:99999#", "."}) {
            fault(text, text.length());
        }
        for (String text : new String[] {"b7:9", "b7:9@4", "b7:9@4+9", "b7:9+9", "p7:9", "r", ".9"}) {
            good(text, 1);
        }
    }

    private static void performEndsTooEarlyBehindAnother() {
        due.of(13, "or the length of the text if it ends too early");
        for (String first : new String[] {"b0:1;", "b0:1@1;", "b0:1+1;", "p0:1;", "p0:1#0;", "r;", ".1;", "r;r;"}) {
            fault(first, first.length());
            for (String text : new String[] {"b", "b7", "b7:", "b7:9@", "b7:9+", "p", "p7", "p7:", "p7:9#", "."}) {
                fault(first + text, first.length() + text.length());
            }
        }
    }

    private static void performCharacterOutOfPlace() {
        due.of(13, "The fault of the text is the index, from 0, of the first character that is not allowed "
            + "at its place");
        String[] starts = {"", "b", "b1", "b1:", "b1:5@", "b1:5+", "p", "p1", "p1:", "p1:5#", ".", "r", "r;"};
        String[] allowed = {"bpr.", "01234567", ":", "123456789", "0123456789", "0123456789", "01234567", ":",
            "123456789", "0123456789", "123456789", ";", "bpr."};
        String all = "bpr.0123456789:@+#;x -,/\n" + (char) 0 + (char) 255 + (char) 256;
        for (int i = 0; i < starts.length; i++) {
            for (char character : all.toCharArray()) {
                if (allowed[i].indexOf(character) < 0) {
                    fault(starts[i] + character, starts[i].length());
                    fault(starts[i] + character + "r;r", starts[i].length());
                }
            }
        }
        fault("b1:5x", 4);
        fault("b1:5@2x", 6);
        fault("b1:5@20x", 7);
        fault("b1:5+3x", 6);
        fault("b1:5#0", 4);
        fault("p1:5x", 4);
        fault("p1:5@0", 4);
        fault("p1:5+0", 4);
        fault("p1:5#0x", 6);
        fault(".5x", 2);
        fault("rx", 1);
    }

    private static void performCharactersAlike() {
        due.of(13, "the first character that is not allowed at its place");
        char[] known = "bpr.0123456789:@+#;".toCharArray();
        for (char character : known) {
            for (int far : new int[] {128, 256, 512, 1 << 15}) {
                String text = "" + (char) (character + far);
                fault(text, 0);
                fault("r" + text, 1);
                fault(".1" + text, 2);
                fault("p1:" + text, 3);
            }
        }
        fault("B1:5", 0);
        fault("P1:5", 0);
        fault("R", 0);
        fault("b" + (char) 0x0661 + ":5", 1);
    }

    private static void performCustomers() {
        due.of(13, "Customers are 0 to 7");
        for (String kind : new String[] {"b", "p"}) {
            good(kind + "0:1", 1);
            good(kind + "7:1", 1);
            fault(kind + "8:1", 1);
            fault(kind + "9:1", 1);
            fault(kind + ":1", 1);
            fault(kind + "10:1", 2);
            fault(kind + "77:1", 2);
            fault(kind + "-1:1", 1);
        }
        InvoiceBook book = withText("b7:1;b0:1");
        book.perform();
        due.is("the most", book.billOf(0, 0), 7);
        due.is("the least", book.billOf(1, 0), 0);
    }

    private static void performNetAmounts() {
        due.of(13, "net amounts 1 to 9999");
        good("b0:1", 1);
        good("b0:9999", 1);
        fault("b0:0", 3);
        fault("b0:0@20", 3);
        fault("b0:10000", 7);
        fault("b0:99990", 7);
        fault("b0:99999999999", 7);
        InvoiceBook book = withText("b0:1;b1:9999");
        book.perform();
        due.is("the least", book.billOf(0, 1), 1);
        due.is("the most", book.billOf(1, 1), 9999);
    }

    private static void performRates() {
        due.of(13, "rates 0 to 40");
        good("b0:100@0", 1);
        good("b0:100@40", 1);
        fault("b0:100@41", 8);
        fault("b0:100@49", 8);
        fault("b0:100@50", 8);
        fault("b0:100@400", 9);
        fault("b0:100@100", 9);
        InvoiceBook book = withText("b0:100@0;b1:100@40;b2:100@4;b3:100@39");
        book.perform();
        due.is("the least", book.billOf(0, 2), 0);
        due.is("the most", book.billOf(1, 2), 40);
        due.is("a single digit", book.billOf(2, 2), 4);
        due.is("two digits", book.billOf(3, 2), 39);
    }

    private static void performDueDays() {
        due.of(13, "days until it is due 0 to 99");
        good("b0:1+0", 1);
        good("b0:1+99", 1);
        fault("b0:1+100", 7);
        fault("b0:1+990", 7);
        fault("b0:1@5+100", 9);
        InvoiceBook book = withText("b0:1+0;b1:1+99;b2:1@5+99");
        book.perform();
        due.is("the least", book.billOf(0, 5), 0);
        due.is("the most", book.billOf(1, 5), 99);
        due.is("the most with a rate", book.billOf(2, 5), 99);
    }

    private static void performAmounts() {
        due.of(13, "amounts 1 to 99999");
        good("p0:1", 1);
        good("p0:99999", 1);
        fault("p0:0", 3);
        fault("p0:0#0", 3);
        fault("p0:100000", 8);
        fault("p0:999990", 8);
        InvoiceBook book = withText("p0:1;p1:99999");
        book.perform();
        due.is("the least", book.customer(0, 3), 1);
        due.is("the most", book.customer(1, 3), 99999);
    }

    private static void performBills() {
        due.of(13, "bills 0 to 39");
        fault("p0:1#40", 6);
        fault("p0:1#49", 6);
        fault("p0:1#50", 6);
        fault("p0:1#99", 6);
        fault("p0:1#390", 7);
        fault("p0:1#100", 7);
        fault("p0:1#-1", 5);
        InvoiceBook book = Books.withAllBills();
        due.is("the least", Books.perform(book, "p0:10#0"), 1);
        due.is("the most", Books.perform(book, "p7:20#39"), 1);
        due.is("a single digit", Books.perform(book, "p4:30#4"), 1);
        due.is("two digits", Books.perform(book, "p6:40#30"), 1);
        int[][] owed = {{0, 90}, {39, 80}, {4, 70}, {30, 60}};
        for (int[] one : owed) {
            due.is("owed on " + one[0], book.billOf(one[0], 10), one[1]);
        }
    }

    private static void performDays() {
        due.of(13, "\".\" and days (1 to 99): days pass");
        good(".1", 1);
        good(".99", 1);
        fault(".0", 1);
        fault(".100", 3);
        fault(".990", 3);
        fault(".-1", 1);
        InvoiceBook book = withText(".1;.99");
        book.perform();
        due.is("day", book.count(0), 100);
    }

    private static void performZeroInFront() {
        due.of(13, "Numbers have no zero in front, unless they are the single digit 0");
        good("b0:1@0+0", 1);
        fault("b00:1", 2);
        fault("b01:1", 2);
        fault("b0:01", 3);
        fault("b0:1@00", 6);
        fault("b0:1@05", 6);
        fault("b0:1+00", 6);
        fault("b0:1+05", 6);
        fault("p00:1", 2);
        fault("p0:01", 3);
        fault("p0:1#00", 6);
        fault("p0:1#05", 6);
        fault(".01", 1);
        fault(".00", 1);
        InvoiceBook book = new InvoiceBook();
        book.bill(0, 100, 0, 0);
        due.is("the bill 0", Books.perform(book, "p0:1#0"), 1);
    }

    private static void performDigitTooMuch() {
        due.of(13, "a digit by which a number would be greater than told is not allowed");
        fault("b0:99999@9", 7);
        fault("b0:1000000000000000000", 7);
        fault("b0:42949672971", 7);
        fault("b0:1@42", 6);
        fault("b0:1@4294967296", 6);
        fault("b0:1+42949672960", 7);
        fault("p0:4294967297", 8);
        fault("p0:1#4294967296", 6);
        fault(".4294967297", 3);
        fault("b0:10000x", 7);
        fault("b0:1x000", 4);
    }

    private static void performRateAheadOfDays() {
        due.of(13, "perhaps \"@\" and a rate (20 without it), perhaps \"+\" and the days until it is due");
        good("b0:1@2+3", 1);
        fault("b0:1+3@2", 6);
        fault("b0:1@2@2", 6);
        fault("b0:1+3+3", 6);
        fault("b0:1@2+3@2", 8);
        fault("b0:1@2+3+3", 8);
        fault("b0:1@+3", 5);
        fault("b0:1+@3", 5);
    }

    private static void performUsualRate() {
        due.of(13, "(20 without it)");
        InvoiceBook book = withText("b0:100@5;b1:100;b2:100+3");
        due.is("perform()", book.perform(), 3);
        due.is("tax", book.billOf(1, 2), 20);
        due.is("tax with days", book.billOf(2, 2), 20);
        due.is("days behind the usual rate", book.billOf(2, 5), 3);
    }

    private static void performUsualDueDays() {
        due.of(13, "(14 without it)");
        InvoiceBook book = withText("b0:100+3;b1:100;b2:100@5");
        due.is("perform()", book.perform(), 3);
        due.is("due", book.billOf(1, 5), 14);
        due.is("due with a rate", book.billOf(2, 5), 14);
    }

    private static void performThingsBetweenSemicolons() {
        due.of(13, "A text of days is one or more of these with \";\" between two");
        good("r", 1);
        good("r;r", 2);
        fault(";", 0);
        fault(";r", 0);
        fault("r;", 2);
        fault("r;;r", 2);
        fault("r;r;", 4);
        fault("rr", 1);
        fault("r.1", 1);
        fault(".1.1", 2);
        fault(".1r", 2);
        fault("b0:1b0:1", 4);
        fault("p0:1p0:1", 4);
        fault("r r", 1);
        fault("r; r", 2);
        fault("r,r", 1);
    }

    private static void performFullText() {
        due.of(13, "There is a text of at most 60 characters");
        due.is("length", THIRTY.length(), 59);
        good(THIRTY, 30);
        good(THIRTY.substring(2) + ";.9", 30);
        good(THIRTY.substring(4) + ";b0:1", 29);
        fault(THIRTY + ";", 60);
        fault(THIRTY + "r", 59);
        fault(THIRTY.substring(1) + ";.", 0);
        fault(THIRTY.substring(2) + ";b0", 60);
        fault(THIRTY.substring(2) + ";.0", 59);
    }

    private static void performFaultIsAnError() {
        due.of(13, "-100 minus the fault of the text if it has one (which is an error)");
        String[] texts = {"x", "b0:1;", "b0:1;x", "p3:5;.5;r;p", "r;.99;b0:10000"};
        int[] answers = {-100, -105, -105, -111, -113};
        for (int i = 0; i < texts.length; i++) {
            String text = texts[i];
            due.refuses("perform() of " + text, answers[i], () -> withAllAndText(text), b -> b.perform());
        }
    }

    private static void performFaultAheadOfStop() {
        due.of(13, "-100 minus the fault of the text if it has one (which is an error); "
            + "NOT_POSSIBLE if any is stopped");
        due.refuses("perform()", -107, () -> withText("p0:1#0;"), b -> b.perform());
        due.refuses("perform()", -107, () -> withText("p0:1#0;x"), b -> b.perform());
        InvoiceBook book = withText("p0:1#0;x");
        book.perform();
        due.is("a fault is no stop", book.stopped(0), -5);
    }

    private static void performAllOrNothing() {
        due.of(13, "all of it, or nothing");
        String text = "b0:50;p3:9;.50;r;p1:900;.7;b5:1;p7:1#30";
        InvoiceBook book = withAllAndText(text);
        due.is("perform()", book.perform(), -4);
        due.is("number", book.stopped(0), 7);
        InvoiceBook other = withAllAndText("p7:1;p7:1;p7:1;p7:1;p7:1;p7:1;p7:1;p7:1#30");
        due.is("perform()", other.perform(), -4);
        other.clearText();
        for (char character : text.toCharArray()) {
            other.type(character);
        }
        due.same("a text that is stopped", book, other);
    }

    private static void performStoppedByNoBill() {
        due.of(13, "what would return an error stops it");
        stops("p0:1#0", new InvoiceBook(), 0, -1);
        stops("b0:1;p0:1#1", new InvoiceBook(), 1, -1);
        stops("p0:1#39", new InvoiceBook(), 0, -1);
        stops("p3:1#4", Books.withAll(), 0, -1);
        InvoiceBook book = new InvoiceBook();
        due.is("a bill of the text itself", Books.perform(book, "b0:1@0;p0:1#0"), 2);
        due.is("is paid", book.billOf(0, 6), 1);
    }

    private static void performStoppedByAnothersBill() {
        due.of(13, "with NOT_POSSIBLE also a payment for a bill of another customer");
        stops("p1:1#3", Books.withAll(), 0, -4);
        stops("r;p7:1#3", Books.withAll(), 1, -4);
        stops("p0:1#0", Books.withAll(), 0, -4);
        stops("b4:10;p5:1#4", Books.withAll(), 1, -4);
        InvoiceBook book = Books.withAll();
        due.is("its own customer's", Books.perform(book, "p0:1#3"), 1);
        due.is("owed", book.billOf(3, 10), 89);
        InvoiceBook full = Books.withFullCredit(2);
        full.bill(1, 10, 0, 0);
        stops("p2:99999#0", full, 0, -4);
    }

    private static void performStoppedByAPaidBill() {
        due.of(13, "what would return an error stops it");
        stops("p0:1#1", Books.withAll(), 0, -4);
        stops("b0:1@0;p0:1#0;p0:1#0", new InvoiceBook(), 2, -4);
        InvoiceBook late = Books.withWriteOff();
        due.is("to one that is written off", Books.perform(late, "p2:134#0;p2:1#0"), 2);
        stops("p2:1#0", late, 0, -4);
    }

    private static void performStoppedByFullBills() {
        due.of(13, "what would return an error stops it");
        stops("r;b0:1", Books.withAllBills(), 1, -3);
        InvoiceBook book = Books.withAllBills();
        book.undo();
        stops("b0:1;b0:1", book, 1, -3);
        due.is("bills", book.count(1), 39);
        due.is("the 40th", Books.perform(book, "b0:1"), 1);
    }

    private static void performStoppedByFullCredit() {
        due.of(13, "what would return an error stops it");
        stops("p6:1", Books.withFullCredit(6), 0, -3);
        stops("p5:1;p6:1", Books.withFullCredit(6), 1, -3);
        stops("b6:1@0;p6:1;p6:1", Books.withFullCredit(6), 2, -3);
        InvoiceBook book = Books.withFullCredit(6);
        due.is("a bill makes room", Books.perform(book, "b6:1@0;p6:1"), 2);
        due.is("credit", book.customer(6, 3), 999999);
        stops("p4:99#11", Books.withFullCreditAndAnOpenBill(), 0, -3);
        stops("p4:40#11;p4:59#11", Books.withFullCreditAndAnOpenBill(), 1, -3);
        InvoiceBook named = Books.withFullCreditAndAnOpenBill();
        due.is("what is owed fits", Books.perform(named, "p4:40#11;p4:58#11"), 2);
        due.is("credit", named.customer(4, 3), 999999);
    }

    private static void performStoppedByTheLastDay() {
        due.of(13, "what would return an error stops it");
        stops(".1", Books.onDay(9999), 0, -3);
        stops(".50;.49;.1", Books.onDay(9900), 2, -3);
        InvoiceBook book = Books.onDay(9900);
        due.is("up to the last day", Books.perform(book, ".50;.49"), 2);
        due.is("day", book.count(0), 9999);
    }

    private static void performOfNone() {
        due.of(13, "What would return NONE does not stop it");
        InvoiceBook book = new InvoiceBook();
        due.is("r", Books.perform(book, "r"), 1);
        due.is("states", book.count(20), 1);
        due.is("stopped(0)", book.stopped(0), -5);
        due.is("r;b0:1;r;p0:2;r", Books.perform(book, "r;b0:1;r;p0:2;r"), 5);
        due.is("bills", book.count(1), 1);
        due.is("paid ones", book.count(3), 1);
    }

    private static void performIsOneAct() {
        due.of(13, "This is one act.");
        InvoiceBook book = withText("b0:1;b1:1;b2:1;p0:9;.1;.2;r");
        due.is("perform()", book.perform(), 7);
        due.is("states", book.count(20), 1);
        due.is("undo()", book.undo(), 0);
        due.is("bills", book.count(1), 0);
        due.is("day", book.count(0), 0);
        due.is("paid", book.count(9), 0);
    }

    private static void performKeepsTheText() {
        due.of(13, "Does all that the text tells, which stays");
        InvoiceBook book = withText("p0:5");
        for (int times = 1; times <= 3; times++) {
            due.is("perform()", book.perform(), 1);
            due.is("credit", book.customer(0, 3), 5 * times);
            due.is("length", book.count(21), 4);
        }
        Books.type(book, "p0:5;p0:5#0");
        due.is("stopped", book.perform(), -4);
        due.is("length", book.count(21), 11);
        book.bill(0, 200, 0, 0);
        due.is("goes on as it is", book.perform(), 2);
        book.type('x');
        due.is("a fault", book.perform(), -111);
        due.is("length", book.count(21), 12);
    }

    private static void performCountsThings() {
        due.of(13, "how many things there are in the text");
        StringBuilder text = new StringBuilder("p1:1");
        for (int things = 1; things <= 12; things++) {
            InvoiceBook book = withText(text.toString());
            due.is("perform() of " + text, book.perform(), things);
            due.is("credit", book.customer(1, 3), things);
            text.append(";p1:1");
        }
    }

    private static void performEachByEach() {
        due.of(13, "one after the other (as bill(), pay(), payBill() of a bill of that customer, remind() and pass())");
        InvoiceBook one = Books.withAll();
        due.is("perform()", Books.perform(one, "b1:70@10+1;p1:100;.9;r;p0:30#3;.9;b3:40;p2:200#0"), 8);
        InvoiceBook other = Books.withAll();
        other.bill(1, 70, 10, 1);
        other.pay(1, 100);
        other.pass(9);
        other.remind();
        other.payBill(3, 30);
        other.pass(9);
        other.bill(3, 40, 20, 14);
        other.payBill(0, 200);
        for (int what = 0; what <= 19; what++) {
            due.is("count(" + what + ")", one.count(what), other.count(what));
        }
        for (int bill = 0; bill <= 5; bill++) {
            for (int what = 0; what <= 13; what++) {
                due.is("billOf(" + bill + ", " + what + ")", one.billOf(bill, what), other.billOf(bill, what));
            }
        }
    }

    private static void stoppedWhat() {
        due.of(14, "`what`: 0 for its number in the text, from 0, 1 for the error");
        for (int what : Books.outside(0, 1)) {
            due.refuses("stopped(" + what + ")", -2, Books::withAll, b -> b.stopped(what));
        }
        InvoiceBook book = Books.withAll();
        due.is("stopped(0)", book.stopped(0), 1);
        due.is("stopped(1)", book.stopped(1), -1);
    }

    private static void stoppedNone() {
        due.of(14, "NONE if nothing was stopped yet");
        InvoiceBook book = new InvoiceBook();
        book.pay(9, 1);
        Books.perform(book, "x");
        Books.perform(book, "b0:1");
        due.is("stopped(0)", book.stopped(0), -5);
        due.is("stopped(1)", book.stopped(1), -5);
        Books.perform(book, "p0:1#5");
        due.is("stopped(0)", book.stopped(0), 0);
        due.is("stopped(1)", book.stopped(1), -1);
    }

    private static void stoppedErrorsInOrder() {
        due.of(14, "the number; BAD_VALUE; NONE if nothing was stopped yet");
        for (int what : Books.outside(0, 1)) {
            due.is("stopped(" + what + ")", new InvoiceBook().stopped(what), -2);
        }
    }

    private static void stoppedFirstAndLast() {
        due.of(14, "0 for its number in the text, from 0");
        stops("p0:1#0;" + THIRTY.substring(8), new InvoiceBook(), 0, -1);
        stops(THIRTY.substring(6) + ";p0:1#0", new InvoiceBook(), 27, -1);
    }

    private static void stoppedLatest() {
        due.of(14, "Tells of the latest stop of perform().");
        InvoiceBook book = Books.withFullCredit(6);
        stops("r;r;p6:1", book, 2, -3);
        stops("p0:1#0", book, 0, -1);
        stops("r;p6:1;p0:1#0", book, 1, -3);
        due.is("one that goes well", Books.perform(book, "r"), 1);
        due.is("number", book.stopped(0), 1);
        due.is("error", book.stopped(1), -3);
    }
}
