/** Books that several tests start from. */
final class Books {
    private Books() {
    }

    /**
     * Numbers beyond a range: the first on each side, those that would be inside it if a number were
     * cut to 8 or 16 bits, and the outermost.
     */
    static int[] outside(int least, int most) {
        return new int[] {least - 1, most + 1, least - 256, least + (most < 256 ? 256 : 1 << 17), least - 65536,
            least + (1 << 17), Integer.MIN_VALUE, Integer.MAX_VALUE, Integer.MIN_VALUE + most};
    }

    /** Puts a text in place of the one that is there. */
    static void type(InvoiceBook book, String text) {
        book.clearText();
        for (int i = 0; i < text.length(); i++) {
            book.type(text.charAt(i));
        }
    }

    static int perform(InvoiceBook book, String text) {
        type(book, text);
        return book.perform();
    }

    static void passTo(InvoiceBook book, int day) {
        while (book.count(0) < day) {
            book.pass(Math.min(99, day - book.count(0)));
        }
    }

    static InvoiceBook onDay(int day) {
        InvoiceBook book = new InvoiceBook();
        passTo(book, day);
        return book;
    }

    /** The bill 0 of the customer 2 (120 coins, due on the day 5) has three reminders, of the days 12, 19 and 26. */
    static InvoiceBook withThreeReminders() {
        InvoiceBook book = new InvoiceBook();
        book.bill(2, 100, 20, 5);
        for (int day = 12; day <= 26; day += 7) {
            passTo(book, day);
            book.remind();
        }
        return book;
    }

    /** The same bill, written off on the day 33, with 135 coins owed on it. */
    static InvoiceBook withWriteOff() {
        InvoiceBook book = withThreeReminders();
        passTo(book, 33);
        book.writeOff(0);
        return book;
    }

    /**
     * Of all a bit, on the day 107: the bill 0 of the customer 2 is written off, 1 (of 0) is paid, 2 (of 1) is
     * overdue and in part paid, 3 (of 0) is open; 3 has 70 coins of credit, 34 coins were paid back to 0; the
     * year 0 is closed; there are a snapshot of the day 33, a stop, a text and four states.
     */
    static InvoiceBook withAll() {
        InvoiceBook book = withWriteOff();
        book.keep();
        book.bill(0, 200, 10, 30);
        book.bill(1, 300, 0, 0);
        book.payBill(1, 250);
        book.payBack(0);
        book.payBill(2, 40);
        perform(book, "r;p7:1#30");
        passTo(book, 100);
        book.closeYear(0);
        book.pay(3, 70);
        book.bill(0, 90, 0, 9);
        book.pass(7);
        type(book, "r;.3;b0:1");
        return book;
    }

    /** 40 bills are written: number b is of the customer b % 8, and all are open. */
    static InvoiceBook withAllBills() {
        InvoiceBook book = new InvoiceBook();
        for (int bill = 0; bill < 40; bill++) {
            book.bill(bill % 8, 100, 0, 0);
        }
        return book;
    }

    /** The customer has as much credit as a customer can have. */
    static void fillCredit(InvoiceBook book, int customer) {
        for (int i = 0; i < 10; i++) {
            book.pay(customer, 99999);
        }
        book.pay(customer, 9);
    }

    static InvoiceBook withFullCredit(int customer) {
        InvoiceBook book = new InvoiceBook();
        fillCredit(book, customer);
        return book;
    }

    /** The bill 11 of the customer 4 is open and owes 100 coins, beside as much credit as can be. */
    static InvoiceBook withFullCreditAndAnOpenBill() {
        InvoiceBook book = new InvoiceBook();
        for (int bill = 0; bill < 12; bill++) {
            book.bill(4, 100, 0, 0);
        }
        for (int bill = 0; bill < 10; bill++) {
            book.payBill(bill, 99999);
        }
        book.payBill(10, 98 + 989);
        return book;
    }
}
