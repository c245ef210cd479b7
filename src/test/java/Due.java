import java.util.function.Supplier;
import java.util.function.ToIntFunction;

/** Compares answers with what is due, and ends the program with exit code 1 if one is wrong. */
final class Due {
    private String source = "";
    private int asked;
    private int wrong;

    /** What is asked from now on belongs to this promise. */
    void of(int promise) {
        source = "promise " + promise;
    }

    /** What is asked from now on belongs to this promise, and to these words of the document. */
    void of(int promise, String words) {
        source = "promise " + promise + ", \"" + words + "\"";
    }

    void is(String call, int got, int want) {
        asked++;
        if (got != want) {
            wrong++;
            System.out.println(source + ": " + call + " answered " + got + ", due is " + want);
        }
    }

    /** Asks billOf(bill, 0), billOf(bill, 1) and so on. */
    void bill(InvoiceBook book, int bill, int... want) {
        for (int what = 0; what < want.length; what++) {
            is("billOf(" + bill + ", " + what + ")", book.billOf(bill, what), want[what]);
        }
    }

    /** Asks customer(customer, 0), customer(customer, 1) and so on. */
    void customer(InvoiceBook book, int customer, int... want) {
        for (int what = 0; what < want.length; what++) {
            is("customer(" + customer + ", " + what + ")", book.customer(customer, what), want[what]);
        }
    }

    /** Asks count(0), count(1) and so on. */
    void count(InvoiceBook book, int... want) {
        for (int what = 0; what < want.length; what++) {
            is("count(" + what + ")", book.count(what), want[what]);
        }
    }

    /** The two books must tell the same of all, of their histories and their snapshots too. Both are used up. */
    void same(String call, InvoiceBook got, InvoiceBook want) {
        asked++;
        String difference = Picture.difference(Picture.of(got), Picture.of(want));
        if (difference != null) {
            wrong++;
            System.out.println(source + ": behind " + call + " " + difference);
        }
    }

    /** The call must answer this and change nothing. */
    void refuses(String call, int want, Supplier<InvoiceBook> made, ToIntFunction<InvoiceBook> asks) {
        InvoiceBook book = made.get();
        is(call, asks.applyAsInt(book), want);
        same(call, book, made.get());
    }

    void end() {
        System.out.println(asked + " answers looked at, " + wrong + " wrong");
        if (wrong != 0) {
            System.exit(1);
        }
    }
}
