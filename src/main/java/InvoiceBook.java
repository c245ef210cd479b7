/**
 * A freelancer's invoices: bills with taxes, part payments, credit, discounts, reminders, write-offs,
 * closed years, texts of days, undo and a snapshot.
 *
 * No call makes an object: all books stand from the constructor on and change places, because the room
 * for objects is counted over all calls.
 */
public final class InvoiceBook {
    public static final int UNKNOWN = -1;
    public static final int BAD_VALUE = -2;
    public static final int FULL = -3;
    public static final int NOT_POSSIBLE = -4;
    public static final int NONE = -5;

    private static final int CUSTOMERS = 8;
    private static final int MOST_BILLS = 40;
    private static final int MOST_NET = 9999;
    private static final int MOST_RATE = 40;
    private static final int MOST_DAYS = 99;
    private static final int MOST_AMOUNT = 99999;
    private static final int MOST_CREDIT = 999999;
    private static final int MOST_REMINDERS = 3;
    private static final int YEARS = 100;
    private static final int DAYS_OF_A_YEAR = 100;
    private static final int LAST_DAY = 9999;
    private static final int MOST_SIGNS = 60;
    private static final int MOST_STATES = 4;
    private static final int FAULT_AT_START = -100;

    private static final int ANY = -9;

    private static final int BY_BILLS = 0;
    private static final int BY_PAYMENTS = 1;
    private static final int AS_CLOSED = 2;

    private Book now = new Book();
    private Book spare = new Book();
    private final Book snapshot = new Book();
    private boolean hasSnapshot;
    private final History history = new History();
    private final Text text = new Text();
    private boolean hasStop;
    private int stopNumber;
    private int stopError;

    public InvoiceBook() {
    }

    public int bill(int customer, int net, int rate, int due) {
        startAct();
        return endAct(now.writeBill(customer, net, rate, due));
    }

    public int pay(int customer, int amount) {
        startAct();
        return endAct(now.takePayment(customer, amount));
    }

    public int payBill(int bill, int amount) {
        startAct();
        return endAct(now.takePaymentFor(bill, amount));
    }

    public int payBack(int customer) {
        startAct();
        return endAct(now.returnCredit(customer));
    }

    public int pass(int days) {
        startAct();
        return endAct(now.goOn(days));
    }

    public int remind() {
        startAct();
        return endAct(now.sendReminders());
    }

    public int writeOff(int bill) {
        startAct();
        return endAct(now.giveUp(bill));
    }

    public int closeYear(int year) {
        startAct();
        return endAct(now.endYear(year));
    }

    public int set(int which, int value) {
        startAct();
        return endAct(now.settings.change(which, value));
    }

    public int type(char character) {
        return text.add(character) ? text.length : FULL;
    }

    public int clearText() {
        int before = text.length;
        text.length = 0;
        return before;
    }

    public int perform() {
        int fault = text.findFault();
        if (fault != Text.NO_FAULT) {
            return FAULT_AT_START - fault;
        }
        startAct();
        return endAct(doAllThings());
    }

    public int stopped(int what) {
        if (what != 0 && what != 1) {
            return BAD_VALUE;
        }
        if (!hasStop) {
            return NONE;
        }
        return what == 0 ? stopNumber : stopError;
    }

    public int undo() {
        if (history.count == 0) {
            return NONE;
        }
        now = history.takeLatest(now);
        return history.count;
    }

    public int keep() {
        snapshot.copyFrom(now);
        hasSnapshot = true;
        return now.day;
    }

    public int restore() {
        if (!hasSnapshot) {
            return NONE;
        }
        startAct();
        now.copyFrom(snapshot);
        return endAct(now.day);
    }

    public int billOf(int bill, int what) {
        Bill asked = now.billAt(bill);
        if (asked == null) {
            return UNKNOWN;
        }
        switch (what) {
            case 0: return asked.customer;
            case 1: return asked.net;
            case 2: return asked.tax;
            case 3: return asked.sum;
            case 4: return asked.day;
            case 5: return asked.dueDay();
            case 6: return asked.state;
            case 7: return asked.paid;
            case 8: return asked.discount;
            case 9: return asked.fees;
            case 10: return asked.owed();
            case 11: return asked.reminders;
            case 12: return asked.lastPayment;
            case 13: return asked.isOverdue(now.day) ? 1 : 0;
            default: return BAD_VALUE;
        }
    }

    public int customer(int customer, int what) {
        if (!isCustomer(customer)) {
            return UNKNOWN;
        }
        switch (what) {
            case 0: return now.countBills(customer, ANY);
            case 1: return now.countBills(customer, Bill.OPEN);
            case 2: return now.owedOn(customer, Bill.OPEN);
            case 3: return now.creditOf(customer);
            case 4: return now.paidOn(customer) + now.creditOf(customer);
            case 5: return now.owedOn(customer, Bill.WRITTEN_OFF);
            case 6: return now.oldestOpenBill(customer);
            default: return BAD_VALUE;
        }
    }

    public int tax(int year, int way) {
        if (!isYear(year)) {
            return UNKNOWN;
        }
        if (way < BY_BILLS || way > AS_CLOSED) {
            return BAD_VALUE;
        }
        return way == AS_CLOSED ? now.taxTold(year) : now.taxOf(year, way);
    }

    public int reason(int bill) {
        Bill asked = now.billAt(bill);
        if (asked == null) {
            return UNKNOWN;
        }
        return asked.whyNoReminder(now.day, now.settings.reminderDays());
    }

    public int ifPaid(int customer, int amount, int what) {
        if (!isCustomer(customer)) {
            return UNKNOWN;
        }
        if (!isAmount(amount) || what < 0 || what > 3) {
            return BAD_VALUE;
        }
        spare.copyFrom(now);
        int paidBills = spare.takePayment(customer, amount);
        if (paidBills < 0) {
            return paidBills;
        }
        switch (what) {
            case 0: return paidBills;
            case 1: return spare.allDiscounts() - now.allDiscounts();
            case 2: return spare.creditOf(customer);
            default: return spare.owedOn(customer, Bill.OPEN);
        }
    }

    public int settles(int customer) {
        return isCustomer(customer) ? now.leastToPayAll(customer) : UNKNOWN;
    }

    public int nextReminder(int bill) {
        Bill asked = now.billAt(bill);
        if (asked == null) {
            return UNKNOWN;
        }
        if (!asked.awaitsReminder()) {
            return NONE;
        }
        int next = Math.max(now.day, asked.reminderDay(now.settings.reminderDays()));
        return next <= LAST_DAY ? next : NONE;
    }

    public int worst() {
        int worst = NONE;
        int most = 0;
        for (int customer = 0; customer < CUSTOMERS; customer++) {
            int owed = now.owedOn(customer, Bill.OPEN);
            if (owed > most) {
                most = owed;
                worst = customer;
            }
        }
        return worst;
    }

    public int count(int what) {
        switch (what) {
            case 0: return now.day;
            case 1: return now.countBills(ANY, ANY);
            case 2: return now.countBills(ANY, Bill.OPEN);
            case 3: return now.countBills(ANY, Bill.PAID);
            case 4: return now.countBills(ANY, Bill.WRITTEN_OFF);
            case 5: return now.countOverdue();
            case 6: return now.owedOn(ANY, Bill.OPEN);
            case 7: return now.owedOn(ANY, Bill.WRITTEN_OFF);
            case 8: return now.allCredit();
            case 9: return now.paidOn(ANY) + now.allCredit() + now.paidBack;
            case 10: return now.paidBack;
            case 11: return now.allDiscounts();
            case 12: return now.allFees();
            case 13: return now.allReminders();
            case 14: return now.closedYears;
            case 15: return now.settings.discountDays();
            case 16: return now.settings.discountPercent();
            case 17: return now.settings.reminderDays();
            case 18: return now.settings.reminderFee();
            case 19: return now.settings.taxWay();
            case 20: return history.count;
            case 21: return text.length;
            default: return BAD_VALUE;
        }
    }

    private void startAct() {
        spare.copyFrom(now);
    }

    /** What was before the act goes to the history, or, if the act came to nothing, stands again. */
    private int endAct(int answer) {
        if (answer >= 0) {
            spare = history.add(spare);
        } else {
            Book before = spare;
            spare = now;
            now = before;
        }
        return answer;
    }

    /** The text must have no fault. */
    private int doAllThings() {
        int done = 0;
        text.goToStart();
        while (done < MOST_SIGNS && text.readThing()) {
            int answer = doThing();
            if (answer < 0 && answer != NONE) {
                hasStop = true;
                stopNumber = done;
                stopError = answer;
                return NOT_POSSIBLE;
            }
            done++;
            text.skip(';');
        }
        return done;
    }

    private int doThing() {
        switch (text.kind) {
            case Text.BILL: return now.writeBill(text.customer, text.amount, text.rate, text.days);
            case Text.PAYMENT: return now.takePayment(text.customer, text.amount);
            case Text.NAMED_PAYMENT:
                return now.isOfAnother(text.bill, text.customer)
                    ? NOT_POSSIBLE : now.takePaymentFor(text.bill, text.amount);
            case Text.REMINDERS: return now.sendReminders();
            default: return now.goOn(text.days);
        }
    }

    private static boolean isCustomer(int customer) {
        return customer >= 0 && customer < CUSTOMERS;
    }

    private static boolean isYear(int year) {
        return year >= 0 && year < YEARS;
    }

    private static boolean isAmount(int amount) {
        return amount >= 1 && amount <= MOST_AMOUNT;
    }

    /** One bill, or the place of one that is not written yet. */
    private static final class Bill {
        static final int UNWRITTEN = -1;
        static final int OPEN = 0;
        static final int PAID = 1;
        static final int WRITTEN_OFF = 2;

        static final int WOULD_BE_SENT = 0;

        int state = UNWRITTEN;
        int customer;
        int net;
        int rate;
        int tax;
        int sum;
        int day;
        int due;
        int paid;
        int discount;
        int fees;
        int reminders;
        int lastReminder;
        int lastPayment = NONE;

        void copyFrom(Bill other) {
            state = other.state;
            customer = other.customer;
            net = other.net;
            rate = other.rate;
            tax = other.tax;
            sum = other.sum;
            day = other.day;
            due = other.due;
            paid = other.paid;
            discount = other.discount;
            fees = other.fees;
            reminders = other.reminders;
            lastReminder = other.lastReminder;
            lastPayment = other.lastPayment;
        }

        /** The place must be one that is not written yet: what is not set here is still as at first. */
        void write(int customer, int net, int rate, int day, int due) {
            this.state = OPEN;
            this.customer = customer;
            this.net = net;
            this.rate = rate;
            this.tax = (net * rate + 50) / 100;
            this.sum = net + tax;
            this.day = day;
            this.due = due;
        }

        boolean is(int customer, int state) {
            return this.state != UNWRITTEN
                && (customer == ANY || customer == this.customer)
                && (state == ANY || state == this.state);
        }

        int owed() {
            return sum + fees - paid - discount;
        }

        int dueDay() {
            return day + due;
        }

        boolean isOverdue(int today) {
            return state == OPEN && today - day > due;
        }

        int whyNoReminder(int today, int gap) {
            if (state == PAID) {
                return 1;
            }
            if (state == WRITTEN_OFF) {
                return 2;
            }
            if (!isOverdue(today)) {
                return 3;
            }
            if (reminders >= MOST_REMINDERS) {
                return 4;
            }
            return today < reminderDay(gap) ? 5 : WOULD_BE_SENT;
        }

        boolean awaitsReminder() {
            return state == OPEN && reminders < MOST_REMINDERS;
        }

        int reminderDay(int gap) {
            return (reminders == 0 ? dueDay() : lastReminder) + gap;
        }

        void addReminder(int today, int fee) {
            // The first one is free, the second one costs the fee, the third one twice the fee.
            fees += reminders * fee;
            reminders++;
            lastReminder = today;
        }

        boolean canBeWrittenOff(int today, int gap) {
            return state == OPEN && reminders >= MOST_REMINDERS && today - lastReminder >= gap;
        }

        void takeMoney(int amount, int discountTaken, int today) {
            paid += amount;
            discount += discountTaken;
            lastPayment = today;
            if (owed() <= 0) {
                state = PAID;
            }
        }

        int taxIn(int amount) {
            int whole = 100 + rate;
            return whole > 0 ? amount * rate / whole : 0;
        }
    }

    /** The settings 0 to 4. */
    private static final class Settings {
        private static final int[] LEAST = {0, 0, 1, 0, 0};
        private static final int[] MOST = {99, 20, 99, 99, 1};

        private final int[] values = {10, 2, 7, 5, 0};

        void copyFrom(Settings other) {
            System.arraycopy(other.values, 0, values, 0, values.length);
        }

        int change(int which, int value) {
            if (which < 0 || which >= values.length) {
                return UNKNOWN;
            }
            if (value < LEAST[which] || value > MOST[which]) {
                return BAD_VALUE;
            }
            int before = values[which];
            if (value == before) {
                return NONE;
            }
            values[which] = value;
            return before;
        }

        int discountDays() {
            return values[0];
        }

        int discountPercent() {
            return values[1];
        }

        int reminderDays() {
            return values[2];
        }

        int reminderFee() {
            return values[3];
        }

        int taxWay() {
            return values[4];
        }
    }

    /**
     * A state: all that undo and the snapshot bring back. A method that answers an error may leave
     * a change behind; whoever calls it takes the book away then.
     */
    private static final class Book {
        private final Bill[] bills = new Bill[MOST_BILLS];
        private final int[] credits = new int[CUSTOMERS];
        private final int[] taxPaid = new int[YEARS];
        private final int[] taxClosed = new int[YEARS];
        final Settings settings = new Settings();
        int day;
        int closedYears;
        int paidBack;

        Book() {
            for (int number = 0; number < bills.length; number++) {
                bills[number] = new Bill();
            }
        }

        void copyFrom(Book other) {
            for (int number = 0; number < bills.length; number++) {
                bills[number].copyFrom(other.bills[number]);
            }
            System.arraycopy(other.credits, 0, credits, 0, credits.length);
            System.arraycopy(other.taxPaid, 0, taxPaid, 0, taxPaid.length);
            System.arraycopy(other.taxClosed, 0, taxClosed, 0, taxClosed.length);
            settings.copyFrom(other.settings);
            day = other.day;
            closedYears = other.closedYears;
            paidBack = other.paidBack;
        }

        Bill billAt(int number) {
            if (number < 0 || number >= bills.length || bills[number].state == Bill.UNWRITTEN) {
                return null;
            }
            return bills[number];
        }

        int creditOf(int customer) {
            return isCustomer(customer) ? credits[customer] : 0;
        }

        private void setCredit(int customer, int credit) {
            if (isCustomer(customer)) {
                credits[customer] = credit;
            }
        }

        int writeBill(int customer, int net, int rate, int due) {
            if (!isCustomer(customer)) {
                return UNKNOWN;
            }
            if (net < 1 || net > MOST_NET || rate < 0 || rate > MOST_RATE || due < 0 || due > MOST_DAYS) {
                return BAD_VALUE;
            }
            int number = countBills(ANY, ANY);
            if (number >= bills.length) {
                return FULL;
            }
            Bill bill = bills[number];
            bill.write(customer, net, rate, day, due);
            int credit = creditOf(customer);
            setCredit(customer, credit - payOn(bill, credit));
            return number;
        }

        int takePayment(int customer, int amount) {
            if (!isCustomer(customer)) {
                return UNKNOWN;
            }
            if (!isAmount(amount)) {
                return BAD_VALUE;
            }
            int left = amount;
            int paidBills = 0;
            // Bills are written in the order of the days, so the order of the numbers is the oldest first.
            for (Bill bill : bills) {
                if (bill.is(customer, Bill.OPEN)) {
                    left -= payOn(bill, left);
                    paidBills += bill.state == Bill.PAID ? 1 : 0;
                }
            }
            return addCredit(customer, left) ? paidBills : FULL;
        }

        int takePaymentFor(int number, int amount) {
            Bill bill = billAt(number);
            if (bill == null) {
                return UNKNOWN;
            }
            if (!isAmount(amount)) {
                return BAD_VALUE;
            }
            if (bill.state == Bill.PAID) {
                return NOT_POSSIBLE;
            }
            int left = amount - payOn(bill, amount);
            return addCredit(bill.customer, left) ? bill.owed() : FULL;
        }

        boolean isOfAnother(int number, int customer) {
            Bill bill = billAt(number);
            return bill != null && bill.customer != customer;
        }

        /** Answers how much of what is left the bill takes. */
        private int payOn(Bill bill, int left) {
            if (left <= 0) {
                return 0;
            }
            int discount = discountOn(bill);
            int toPay = bill.owed() - discount;
            boolean enough = left >= toPay;
            int amount = enough ? toPay : left;
            bill.takeMoney(amount, enough ? discount : 0, day);
            int year = day / DAYS_OF_A_YEAR;
            if (isYear(year)) {
                taxPaid[year] += bill.taxIn(amount);
            }
            return amount;
        }

        private int discountOn(Bill bill) {
            if (bill.reminders > 0 || day - bill.day > settings.discountDays()) {
                return 0;
            }
            return Math.min(bill.sum * settings.discountPercent() / 100, bill.owed() - 1);
        }

        private boolean addCredit(int customer, int left) {
            int credit = creditOf(customer) + left;
            setCredit(customer, credit);
            return credit <= MOST_CREDIT;
        }

        int returnCredit(int customer) {
            if (!isCustomer(customer)) {
                return UNKNOWN;
            }
            int credit = creditOf(customer);
            if (credit == 0) {
                return NONE;
            }
            setCredit(customer, 0);
            paidBack += credit;
            return credit;
        }

        int goOn(int days) {
            if (days < 1 || days > MOST_DAYS) {
                return BAD_VALUE;
            }
            if (day + days > LAST_DAY) {
                return FULL;
            }
            day += days;
            return countOverdue();
        }

        int sendReminders() {
            int sent = 0;
            for (Bill bill : bills) {
                if (bill.whyNoReminder(day, settings.reminderDays()) == Bill.WOULD_BE_SENT) {
                    bill.addReminder(day, settings.reminderFee());
                    sent++;
                }
            }
            return sent > 0 ? sent : NONE;
        }

        int giveUp(int number) {
            Bill bill = billAt(number);
            if (bill == null) {
                return UNKNOWN;
            }
            if (!bill.canBeWrittenOff(day, settings.reminderDays())) {
                return NOT_POSSIBLE;
            }
            bill.state = Bill.WRITTEN_OFF;
            return bill.owed();
        }

        int endYear(int year) {
            if (!isYear(year)) {
                return UNKNOWN;
            }
            if (day < (year + 1) * DAYS_OF_A_YEAR || year > closedYears) {
                return NOT_POSSIBLE;
            }
            if (year < closedYears) {
                return NONE;
            }
            taxClosed[year] = taxOf(year, settings.taxWay());
            closedYears++;
            return taxClosed[year];
        }

        int taxOf(int year, int way) {
            if (way == BY_PAYMENTS) {
                return isYear(year) ? taxPaid[year] : 0;
            }
            int tax = 0;
            for (Bill bill : bills) {
                if (bill.is(ANY, ANY) && bill.day / DAYS_OF_A_YEAR == year) {
                    tax += bill.tax;
                }
            }
            return tax;
        }

        int taxTold(int year) {
            return isYear(year) && year < closedYears ? taxClosed[year] : NONE;
        }

        int countBills(int customer, int state) {
            int count = 0;
            for (Bill bill : bills) {
                count += bill.is(customer, state) ? 1 : 0;
            }
            return count;
        }

        int countOverdue() {
            int count = 0;
            for (Bill bill : bills) {
                count += bill.isOverdue(day) ? 1 : 0;
            }
            return count;
        }

        int owedOn(int customer, int state) {
            int owed = 0;
            for (Bill bill : bills) {
                owed += bill.is(customer, state) ? bill.owed() : 0;
            }
            return owed;
        }

        int leastToPayAll(int customer) {
            int least = 0;
            for (Bill bill : bills) {
                least += bill.is(customer, Bill.OPEN) ? bill.owed() - discountOn(bill) : 0;
            }
            return least;
        }

        int oldestOpenBill(int customer) {
            for (int number = 0; number < bills.length; number++) {
                if (bills[number].is(customer, Bill.OPEN)) {
                    return number;
                }
            }
            return NONE;
        }

        int paidOn(int customer) {
            int paid = 0;
            for (Bill bill : bills) {
                paid += bill.is(customer, ANY) ? bill.paid : 0;
            }
            return paid;
        }

        int allCredit() {
            int all = 0;
            for (int credit : credits) {
                all += credit;
            }
            return all;
        }

        int allDiscounts() {
            int all = 0;
            for (Bill bill : bills) {
                all += bill.discount;
            }
            return all;
        }

        int allFees() {
            int all = 0;
            for (Bill bill : bills) {
                all += bill.fees;
            }
            return all;
        }

        int allReminders() {
            int all = 0;
            for (Bill bill : bills) {
                all += bill.reminders;
            }
            return all;
        }
    }

    /** The states that were recorded, the latest one last; the places behind them hold books for use again. */
    private static final class History {
        private final Book[] states = new Book[MOST_STATES];
        int count;

        History() {
            for (int place = 0; place < states.length; place++) {
                states[place] = new Book();
            }
        }

        /** Answers a book that is not needed any more, in place of the one that is kept. */
        Book add(Book state) {
            if (count >= 0 && count < states.length) {
                Book free = states[count];
                states[count] = state;
                count++;
                return free;
            }
            Book oldest = states[0];
            for (int place = 1; place < states.length; place++) {
                states[place - 1] = states[place];
            }
            states[states.length - 1] = state;
            return oldest;
        }

        Book takeLatest(Book free) {
            if (count <= 0 || count > states.length) {
                return free;
            }
            count--;
            Book latest = states[count];
            states[count] = free;
            return latest;
        }
    }

    /** The text, and the thing in it that was read last. */
    private static final class Text {
        static final int NO_FAULT = -1;

        static final int BILL = 0;
        static final int PAYMENT = 1;
        static final int NAMED_PAYMENT = 2;
        static final int REMINDERS = 3;
        static final int DAYS = 4;

        private static final int NO_NUMBER = -1;
        private static final int USUAL_RATE = 20;
        private static final int USUAL_DUE = 14;

        private final char[] signs = new char[MOST_SIGNS];
        int length;
        private int place;

        int kind;
        int customer;
        int amount;
        int rate;
        int days;
        int bill;

        boolean add(char sign) {
            if (length < 0 || length >= signs.length) {
                return false;
            }
            signs[length] = sign;
            length++;
            return true;
        }

        void goToStart() {
            place = 0;
        }

        /** Answers the index of the first fault, or NO_FAULT. */
        int findFault() {
            goToStart();
            for (int things = 0; things < MOST_SIGNS; things++) {
                if (!readThing()) {
                    return place;
                }
                if (place >= length) {
                    return NO_FAULT;
                }
                if (!skip(';')) {
                    return place;
                }
            }
            return place;
        }

        /** Where it answers false, the place stays at the fault. */
        boolean readThing() {
            if (skip('b')) {
                kind = BILL;
                return readBill();
            }
            if (skip('p')) {
                kind = PAYMENT;
                return readPayment();
            }
            if (skip('r')) {
                kind = REMINDERS;
                return true;
            }
            if (skip('.')) {
                kind = DAYS;
                days = readNumber(1, MOST_DAYS);
                return days != NO_NUMBER;
            }
            return false;
        }

        private boolean readBill() {
            if (!readCustomerAndAmount(MOST_NET)) {
                return false;
            }
            rate = skip('@') ? readNumber(0, MOST_RATE) : USUAL_RATE;
            if (rate == NO_NUMBER) {
                return false;
            }
            days = skip('+') ? readNumber(0, MOST_DAYS) : USUAL_DUE;
            return days != NO_NUMBER;
        }

        private boolean readPayment() {
            if (!readCustomerAndAmount(MOST_AMOUNT)) {
                return false;
            }
            if (!skip('#')) {
                return true;
            }
            kind = NAMED_PAYMENT;
            bill = readNumber(0, MOST_BILLS - 1);
            return bill != NO_NUMBER;
        }

        private boolean readCustomerAndAmount(int most) {
            customer = readNumber(0, CUSTOMERS - 1);
            if (customer == NO_NUMBER || !skip(':')) {
                return false;
            }
            amount = readNumber(1, most);
            return amount != NO_NUMBER;
        }

        boolean skip(char sign) {
            if (place < 0 || place >= length || place >= signs.length || signs[place] != sign) {
                return false;
            }
            place++;
            return true;
        }

        /**
         * Stops ahead of a digit that is too much: no digit may stand behind a number, so it is
         * found as the fault by what is read next.
         */
        private int readNumber(int least, int most) {
            int value = digitAtPlace();
            if (value < least || value > most) {
                return NO_NUMBER;
            }
            place++;
            while (value > 0 && place < length) {
                int digit = digitAtPlace();
                if (digit == NO_NUMBER || value * 10 + digit > most) {
                    return value;
                }
                value = value * 10 + digit;
                place++;
            }
            return value;
        }

        private int digitAtPlace() {
            if (place < 0 || place >= length || place >= signs.length) {
                return NO_NUMBER;
            }
            char sign = signs[place];
            return sign >= '0' && sign <= '9' ? sign - '0' : NO_NUMBER;
        }
    }
}
