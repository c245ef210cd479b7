import java.util.Random;

/** Promises 1 to 26 by many runs of calls, each asked of the program and of the model. The seeds are fixed. */
public final class ModelTest {
    private static final int RUNS = 1200;
    /** Nothing is promised of an object beyond these. */
    private static final int MOST_CALLS = 512;
    /** A round calls a book at most so often: a text is emptied, typed, performed, and its stop is asked. */
    private static final int CALLS_OF_A_ROUND = 65;
    private static final int[] EDGES = {-1, 0, 1, 7, 8, 39, 40, 41, 99, 100, 9999, 10000, 99999, 100000,
        Integer.MIN_VALUE, Integer.MAX_VALUE};

    private final Random random;
    private final InvoiceBook book = new InvoiceBook();
    private final Model model = new Model();
    private final StringBuilder log = new StringBuilder();
    private int calls;
    private boolean differs;

    // What a run is like: how many coins its payments have, how fast its days go by, and so on.
    private final int mostPaid;
    private final int mostDays;
    private final int mostNet;
    private final int customers;
    private final boolean undoes;
    private final int pays;
    private final int texts;

    private ModelTest(long seed) {
        random = new Random(seed);
        mostPaid = new int[] {20, 200, 3000, 99999}[random.nextInt(4)];
        mostDays = new int[] {3, 10, 40, 99}[random.nextInt(4)];
        mostNet = new int[] {10, 100, 1000, 9999}[random.nextInt(4)];
        customers = random.nextBoolean() ? 2 : 8;
        undoes = random.nextInt(3) > 0;
        pays = random.nextInt(4) + 1;
        texts = random.nextInt(3) > 0 ? 0 : 15;
        start(random.nextInt(12));
    }

    /** Some runs start near the last day, and some with customers whose credit is nearly all that they can have. */
    private void start(int kind) {
        for (int day = 9900 - random.nextInt(300); kind == 0 && model.count(0) < day; ) {
            same("pass(99)", book.pass(99), model.pass(99));
        }
        for (int customer = 0; kind == 1 && customer < 8; customer++) {
            for (int times = 0; times < 10; times++) {
                same("pay(" + customer + ", 99999)", book.pay(customer, 99999), model.pay(customer, 99999));
            }
        }
    }

    public static void main(String[] args) {
        int wrong = 0;
        for (int seed = 1; seed <= RUNS && wrong < 3; seed++) {
            ModelTest run = new ModelTest(seed);
            while (run.calls + CALLS_OF_A_ROUND <= MOST_CALLS && !run.differs) {
                run.call();
            }
            if (run.differs) {
                wrong++;
                System.out.println("seed " + seed + ":" + run.log);
            }
        }
        System.out.println(RUNS + " runs of at most " + MOST_CALLS + " calls, " + wrong + " differ");
        if (wrong != 0) {
            System.exit(1);
        }
    }

    private void same(String call, int got, int want) {
        calls++;
        log.append("\n  ").append(call).append(" answered ").append(got);
        if (got != want) {
            log.append(", due is ").append(want);
            differs = true;
        }
    }

    private int upTo(int most) {
        return random.nextInt(40) == 0 ? EDGES[random.nextInt(EDGES.length)] : random.nextInt(most + 1);
    }

    private int customer() {
        return upTo(customers - 1);
    }

    private int bill() {
        int bill = upTo(Math.max(1, model.count(1)) - 1);
        // Most bills are paid after a while; those that are not are of more interest.
        for (int tries = 0; tries < 8 && model.billOf(bill, 6) == 1; tries++) {
            bill = upTo(Math.max(1, model.count(1)) - 1);
        }
        return bill;
    }

    private int amount() {
        if (random.nextInt(3) == 0) {
            // About as much as a customer owes: where discounts and bills begin and end.
            int owed = model.settles(random.nextInt(customers));
            return Math.max(1, Math.min(99999, owed + random.nextInt(5) - 2));
        }
        return upTo(mostPaid);
    }

    private void call() {
        int kind = random.nextInt(100);
        if (kind < 40) {
            act(kind);
        } else if (kind < 40 + texts) {
            text();
        } else if (kind < 60) {
            act(random.nextInt(40));
        } else if (kind < 65) {
            history();
        } else {
            told(random.nextInt(9));
        }
    }

    private void act(int kind) {
        if (kind < 7) {
            int c = customer();
            int net = upTo(mostNet);
            int rate = upTo(40);
            int due = upTo(random.nextBoolean() ? 5 : 99);
            same("bill(" + c + ", " + net + ", " + rate + ", " + due + ")",
                book.bill(c, net, rate, due), model.bill(c, net, rate, due));
        } else if (kind < 18 && random.nextInt(pays) > 0) {
            pass();
        } else if (kind < 13) {
            int c = customer();
            int amount = amount();
            same("pay(" + c + ", " + amount + ")", book.pay(c, amount), model.pay(c, amount));
        } else if (kind < 18) {
            int b = bill();
            int amount = amount();
            same("payBill(" + b + ", " + amount + ")", book.payBill(b, amount), model.payBill(b, amount));
        } else if (kind < 19) {
            int c = customer();
            same("payBack(" + c + ")", book.payBack(c), model.payBack(c));
        } else if (kind < 25) {
            pass();
        } else if (kind < 31) {
            same("remind()", book.remind(), model.remind());
        } else if (kind < 35) {
            int b = bill();
            same("writeOff(" + b + ")", book.writeOff(b), model.writeOff(b));
        } else if (kind < 37) {
            int year = random.nextBoolean() ? model.count(14) : upTo(10);
            same("closeYear(" + year + ")", book.closeYear(year), model.closeYear(year));
        } else {
            int which = upTo(4);
            int value = upTo(new int[] {99, 20, 12, 99, 1, 1}[Math.max(0, Math.min(5, which))]);
            same("set(" + which + ", " + value + ")", book.set(which, value), model.set(which, value));
        }
    }

    private void pass() {
        // Just as many days as lie between two reminders, or one more or less, or some.
        int days = random.nextBoolean() ? model.count(17) + random.nextInt(3) - 1 : upTo(mostDays);
        same("pass(" + days + ")", book.pass(days), model.pass(days));
    }

    private String thing() {
        int c = random.nextInt(customers);
        switch (random.nextInt(6)) {
            case 0:
            case 1:
                return "b" + c + ":" + (1 + random.nextInt(mostNet))
                    + (random.nextBoolean() ? "@" + random.nextInt(41) : "")
                    + (random.nextBoolean() ? "+" + random.nextInt(100) : "");
            case 2:
                return "p" + c + ":" + (1 + random.nextInt(mostPaid));
            case 3:
                int bill = random.nextInt(8) == 0 ? Math.min(39, model.count(1)) : Math.max(0, Math.min(39, bill()));
                int owner = model.billOf(bill, 0);
                return "p" + (owner < 0 || random.nextInt(4) == 0 ? c : owner)
                    + ":" + (1 + random.nextInt(mostPaid)) + "#" + bill;
            case 4:
                return "r";
            default:
                return "." + (1 + random.nextInt(mostDays));
        }
    }

    private void text() {
        same("clearText()", book.clearText(), model.clearText());
        StringBuilder text = new StringBuilder(thing());
        for (int things = random.nextInt(8); things > 0; things--) {
            text.append(';').append(thing());
        }
        for (int faults = random.nextInt(4) - 1; faults > 0; faults--) {
            String signs = "bpr.0123456789:@+#;x";
            int place = random.nextInt(text.length());
            char sign = signs.charAt(random.nextInt(signs.length()));
            switch (random.nextInt(4)) {
                case 0: text.setCharAt(place, sign); break;
                case 1: text.insert(place, sign); break;
                case 2: text.append(sign); break;
                default: text.setLength(place + 1); break;
            }
        }
        int longest = random.nextInt(10) == 0 ? 61 : 60;
        for (int i = 0; i < text.length() && i < longest; i++) {
            same("type('" + text.charAt(i) + "')", book.type(text.charAt(i)), model.type(text.charAt(i)));
        }
        same("perform()", book.perform(), model.perform());
        same("stopped(0)", book.stopped(0), model.stopped(0));
        same("stopped(1)", book.stopped(1), model.stopped(1));
    }

    private void history() {
        switch (random.nextInt(undoes ? 5 : 20)) {
            case 0: same("keep()", book.keep(), model.keep()); break;
            case 1: same("restore()", book.restore(), model.restore()); break;
            case 2:
            case 3: same("undo()", book.undo(), model.undo()); break;
            default: same("perform()", book.perform(), model.perform()); break;
        }
    }

    /** Mostly one number is asked, for each call of a run counts; sometimes all. */
    private void told(int kind) {
        int c = customer();
        int b = bill();
        boolean all = random.nextInt(20) == 0;
        if (kind == 0) {
            for (int what = first(all, 14); what <= 14; what += step(all)) {
                same("billOf(" + b + ", " + what + ")", book.billOf(b, what), model.billOf(b, what));
            }
        } else if (kind == 1) {
            for (int what = first(all, 7); what <= 7; what += step(all)) {
                same("customer(" + c + ", " + what + ")", book.customer(c, what), model.customer(c, what));
            }
        } else if (kind == 2) {
            int year = upTo(Math.min(99, model.count(0) / 100));
            for (int way = first(all, 3); way <= 3; way += step(all)) {
                same("tax(" + year + ", " + way + ")", book.tax(year, way), model.tax(year, way));
            }
        } else if (kind == 3) {
            same("reason(" + b + ")", book.reason(b), model.reason(b));
        } else if (kind == 4) {
            int amount = amount();
            for (int what = first(all, 4); what <= 4; what += step(all)) {
                same("ifPaid(" + c + ", " + amount + ", " + what + ")",
                    book.ifPaid(c, amount, what), model.ifPaid(c, amount, what));
            }
        } else if (kind == 5) {
            same("settles(" + c + ")", book.settles(c), model.settles(c));
        } else if (kind == 6) {
            same("nextReminder(" + b + ")", book.nextReminder(b), model.nextReminder(b));
        } else if (kind == 7) {
            same("worst()", book.worst(), model.worst());
        } else {
            for (int what = first(all, 22); what <= 22; what += step(all)) {
                same("count(" + what + ")", book.count(what), model.count(what));
            }
        }
    }

    private int first(boolean all, int most) {
        return all ? -1 : random.nextInt(most + 2) - 1;
    }

    /** Beyond every range if not all are asked. */
    private static int step(boolean all) {
        return all ? 1 : 100;
    }
}
