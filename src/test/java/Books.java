/** Books that several tests start from. */
final class Books {
    private Books() {
    }

    /** Puts a text in place of the one that is there. */
    static void type(InvoiceBook book, String text) {
        book.clearText();
        for (int i = 0; i < text.length(); i++) {
            book.type(text.charAt(i));
        }
    }

    static int perform(InvoiceBook book, String text) {
        type(book, text);
        return book.perform();
    }

    static void passTo(InvoiceBook book, int day) {
        while (book.count(0) < day) {
            book.pass(Math.min(99, day - book.count(0)));
        }
    }

    /** The bill 0 of the customer 2 (120 coins, due on the day 5) has three reminders, of the days 12, 19 and 26. */
    static InvoiceBook withThreeReminders() {
        InvoiceBook book = new InvoiceBook();
        book.bill(2, 100, 20, 5);
        for (int day = 12; day <= 26; day += 7) {
            passTo(book, day);
            book.remind();
        }
        return book;
    }

    /** The same bill, written off on the day 33, with 135 coins owed on it. */
    static InvoiceBook withWriteOff() {
        InvoiceBook book = withThreeReminders();
        passTo(book, 33);
        book.writeOff(0);
        return book;
    }

    /** The customer has as much credit as a customer can have. */
    static void fillCredit(InvoiceBook book, int customer) {
        for (int i = 0; i < 10; i++) {
            book.pay(customer, 99999);
        }
        book.pay(customer, 9);
    }
}
