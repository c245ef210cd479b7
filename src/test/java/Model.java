import java.math.BigDecimal;
import java.math.RoundingMode;
import java.util.ArrayDeque;
import java.util.ArrayList;
import java.util.Deque;
import java.util.List;
import java.util.regex.Matcher;
import java.util.regex.Pattern;

/**
 * The document once more, written another way: it keeps what happened and works every answer out from that,
 * so that a fault in the sums, the order of the checks or the texts of the program shows as a difference.
 */
final class Model {
    private static final int UNKNOWN = -1;
    private static final int BAD_VALUE = -2;
    private static final int FULL = -3;
    private static final int NOT_POSSIBLE = -4;
    private static final int NONE = -5;

    private static final String THING = "(?:b([0-7]):([1-9][0-9]{0,3})(?:@([0-9]|[1-3][0-9]|40))?(?:\\+([0-9]|[1-9][0-9]))?"
        + "|p([0-7]):([1-9][0-9]{0,4})(?:#([0-9]|[1-3][0-9]))?|r|\\.([1-9][0-9]?))";
    private static final Pattern ONE = Pattern.compile(THING);
    private static final Pattern ALL = Pattern.compile(THING + "(?:;" + THING + ")*");

    private record Money(int day, int amount) {
    }

    private record Reminder(int day, int fee) {
    }

    private static final class Bill {
        final int customer;
        final int net;
        final int rate;
        final int day;
        final int due;
        final List<Money> payments = new ArrayList<>();
        final List<Reminder> reminders = new ArrayList<>();
        int discount;
        boolean writtenOff;

        Bill(int customer, int net, int rate, int day, int due) {
            this.customer = customer;
            this.net = net;
            this.rate = rate;
            this.day = day;
            this.due = due;
        }

        Bill copy() {
            Bill copy = new Bill(customer, net, rate, day, due);
            copy.payments.addAll(payments);
            copy.reminders.addAll(reminders);
            copy.discount = discount;
            copy.writtenOff = writtenOff;
            return copy;
        }

        int tax() {
            return BigDecimal.valueOf((long) net * rate, 2).setScale(0, RoundingMode.HALF_UP).intValueExact();
        }

        int sum() {
            return net + tax();
        }

        int paid() {
            return payments.stream().mapToInt(Money::amount).sum();
        }

        int fees() {
            return reminders.stream().mapToInt(Reminder::fee).sum();
        }

        int owed() {
            return sum() + fees() - paid() - discount;
        }

        int how() {
            return owed() == 0 ? 1 : writtenOff ? 2 : 0;
        }

        int lastReminder() {
            return reminders.get(reminders.size() - 1).day();
        }
    }

    private static final class State {
        int day;
        int[] settings = {10, 2, 7, 5, 0};
        List<Bill> bills = new ArrayList<>();
        int[] credit = new int[8];
        int[] received = new int[8];
        int[] returned = new int[8];
        List<Integer> closed = new ArrayList<>();

        State copy() {
            State copy = new State();
            copy.day = day;
            copy.settings = settings.clone();
            for (Bill bill : bills) {
                copy.bills.add(bill.copy());
            }
            copy.credit = credit.clone();
            copy.received = received.clone();
            copy.returned = returned.clone();
            copy.closed.addAll(closed);
            return copy;
        }

        boolean overdue(Bill bill) {
            return bill.how() == 0 && day - bill.day > bill.due;
        }

        int overdueOnes() {
            return (int) bills.stream().filter(this::overdue).count();
        }

        int owed(int customer, int how) {
            return bills.stream().filter(b -> (customer < 0 || b.customer == customer) && b.how() == how)
                .mapToInt(Bill::owed).sum();
        }

        int discountFor(Bill bill) {
            if (!bill.reminders.isEmpty() || day - bill.day > settings[0]) {
                return 0;
            }
            return Math.min((int) Math.floor(bill.sum() * settings[1] / 100.0 + 1e-9), bill.owed() - 1);
        }

        int payOn(Bill bill, int left) {
            int discount = discountFor(bill);
            if (left + discount >= bill.owed()) {
                int amount = bill.owed() - discount;
                bill.payments.add(new Money(day, amount));
                bill.discount = discount;
                return left - amount;
            }
            if (left > 0) {
                bill.payments.add(new Money(day, left));
            }
            return 0;
        }

        int tax(int year, int way) {
            int tax = 0;
            for (Bill bill : bills) {
                if (way == 0) {
                    tax += bill.day / 100 == year ? bill.tax() : 0;
                } else {
                    for (Money money : bill.payments) {
                        tax += money.day() / 100 == year ? money.amount() * bill.rate / (100 + bill.rate) : 0;
                    }
                }
            }
            return tax;
        }

        boolean reminderDue(Bill bill) {
            if (!overdue(bill) || bill.reminders.size() >= 3) {
                return false;
            }
            int since = bill.reminders.isEmpty() ? bill.day + bill.due : bill.lastReminder();
            return day - since >= settings[2];
        }
    }

    private State now = new State();
    private State snapshot;
    private final Deque<State> history = new ArrayDeque<>();
    private final StringBuilder text = new StringBuilder();
    private int[] stop;

    /** An answer that is no error becomes an act: the state that was before it is recorded. */
    private int act(State before, int answer) {
        if (answer < 0) {
            now = before;
            return answer;
        }
        history.addLast(before);
        if (history.size() > 4) {
            history.removeFirst();
        }
        return answer;
    }

    private static boolean within(int value, int least, int most) {
        return least <= value && value <= most;
    }

    private boolean knows(int bill) {
        return within(bill, 0, now.bills.size() - 1);
    }

    int bill(int customer, int net, int rate, int due) {
        return act(now.copy(), doBill(customer, net, rate, due));
    }

    private int doBill(int customer, int net, int rate, int due) {
        if (!within(customer, 0, 7)) {
            return UNKNOWN;
        }
        if (!within(net, 1, 9999) || !within(rate, 0, 40) || !within(due, 0, 99)) {
            return BAD_VALUE;
        }
        if (now.bills.size() == 40) {
            return FULL;
        }
        Bill bill = new Bill(customer, net, rate, now.day, due);
        now.bills.add(bill);
        now.credit[customer] = now.payOn(bill, now.credit[customer]);
        return now.bills.size() - 1;
    }

    int pay(int customer, int amount) {
        return act(now.copy(), doPay(customer, amount));
    }

    private int doPay(int customer, int amount) {
        if (!within(customer, 0, 7)) {
            return UNKNOWN;
        }
        if (!within(amount, 1, 99999)) {
            return BAD_VALUE;
        }
        int left = amount;
        int done = 0;
        List<Bill> open = new ArrayList<>(now.bills);
        open.removeIf(b -> b.customer != customer || b.how() != 0);
        open.sort((a, b) -> Integer.compare(a.day, b.day));
        for (Bill bill : open) {
            left = now.payOn(bill, left);
            done += bill.how() == 1 ? 1 : 0;
        }
        return receive(customer, amount, left) ? done : FULL;
    }

    private boolean receive(int customer, int amount, int left) {
        now.received[customer] += amount;
        now.credit[customer] += left;
        return now.credit[customer] <= 999999;
    }

    int payBill(int bill, int amount) {
        return act(now.copy(), doPayBill(bill, amount));
    }

    private int doPayBill(int number, int amount) {
        if (!knows(number)) {
            return UNKNOWN;
        }
        if (!within(amount, 1, 99999)) {
            return BAD_VALUE;
        }
        Bill bill = now.bills.get(number);
        if (bill.how() == 1) {
            return NOT_POSSIBLE;
        }
        int left = now.payOn(bill, amount);
        return receive(bill.customer, amount, left) ? bill.owed() : FULL;
    }

    int payBack(int customer) {
        if (!within(customer, 0, 7)) {
            return UNKNOWN;
        }
        int credit = now.credit[customer];
        if (credit == 0) {
            return NONE;
        }
        State before = now.copy();
        now.returned[customer] += credit;
        now.credit[customer] = 0;
        return act(before, credit);
    }

    int pass(int days) {
        return act(now.copy(), doPass(days));
    }

    private int doPass(int days) {
        if (!within(days, 1, 99)) {
            return BAD_VALUE;
        }
        if (now.day + days > 9999) {
            return FULL;
        }
        now.day += days;
        return now.overdueOnes();
    }

    int remind() {
        return act(now.copy(), doRemind());
    }

    private int doRemind() {
        int sent = 0;
        for (Bill bill : now.bills) {
            if (now.reminderDue(bill)) {
                int[] fees = {0, now.settings[3], 2 * now.settings[3]};
                bill.reminders.add(new Reminder(now.day, fees[bill.reminders.size()]));
                sent++;
            }
        }
        return sent == 0 ? NONE : sent;
    }

    int writeOff(int number) {
        if (!knows(number)) {
            return UNKNOWN;
        }
        State before = now.copy();
        Bill bill = now.bills.get(number);
        if (bill.how() != 0 || bill.reminders.size() != 3 || now.day - bill.lastReminder() < now.settings[2]) {
            return NOT_POSSIBLE;
        }
        bill.writtenOff = true;
        return act(before, bill.owed());
    }

    int closeYear(int year) {
        if (!within(year, 0, 99)) {
            return UNKNOWN;
        }
        if (now.day / 100 <= year || year > now.closed.size()) {
            return NOT_POSSIBLE;
        }
        if (year < now.closed.size()) {
            return NONE;
        }
        State before = now.copy();
        now.closed.add(now.tax(year, now.settings[4]));
        return act(before, now.closed.get(year));
    }

    int set(int which, int value) {
        if (!within(which, 0, 4)) {
            return UNKNOWN;
        }
        int[][] ranges = {{0, 99}, {0, 20}, {1, 99}, {0, 99}, {0, 1}};
        if (!within(value, ranges[which][0], ranges[which][1])) {
            return BAD_VALUE;
        }
        int previous = now.settings[which];
        if (previous == value) {
            return NONE;
        }
        State before = now.copy();
        now.settings[which] = value;
        return act(before, previous);
    }

    int type(char character) {
        if (text.length() == 60) {
            return FULL;
        }
        return text.append(character).length();
    }

    int clearText() {
        int before = text.length();
        text.setLength(0);
        return before;
    }

    /** By the longest start of the text that could go on to be a good one. */
    private int fault() {
        for (int end = 1; end <= text.length(); end++) {
            Matcher matcher = ALL.matcher(text.substring(0, end));
            if (!matcher.matches() && !matcher.hitEnd()) {
                return end - 1;
            }
        }
        return ALL.matcher(text).matches() ? -1 : text.length();
    }

    int perform() {
        int fault = fault();
        if (fault >= 0) {
            return -100 - fault;
        }
        State before = now.copy();
        String[] things = text.toString().split(";");
        for (int i = 0; i < things.length; i++) {
            int answer = doThing(things[i]);
            if (answer < 0 && answer != NONE) {
                stop = new int[] {i, answer};
                return act(before, NOT_POSSIBLE);
            }
        }
        return act(before, things.length);
    }

    private static int number(Matcher thing, int group, int usual) {
        return thing.group(group) == null ? usual : Integer.parseInt(thing.group(group));
    }

    private int doThing(String told) {
        Matcher thing = ONE.matcher(told);
        if (!thing.matches()) {
            throw new IllegalStateException(told);
        }
        if (thing.group(1) != null) {
            return doBill(number(thing, 1, 0), number(thing, 2, 0), number(thing, 3, 20), number(thing, 4, 14));
        }
        if (thing.group(8) != null) {
            return doPass(number(thing, 8, 0));
        }
        if (thing.group(5) == null) {
            return doRemind();
        }
        int customer = number(thing, 5, 0);
        int amount = number(thing, 6, 0);
        int bill = number(thing, 7, -1);
        if (bill < 0) {
            return doPay(customer, amount);
        }
        return knows(bill) && now.bills.get(bill).customer != customer ? NOT_POSSIBLE : doPayBill(bill, amount);
    }

    int stopped(int what) {
        return !within(what, 0, 1) ? BAD_VALUE : stop == null ? NONE : stop[what];
    }

    int undo() {
        if (history.isEmpty()) {
            return NONE;
        }
        now = history.removeLast();
        return history.size();
    }

    int keep() {
        snapshot = now.copy();
        return now.day;
    }

    int restore() {
        if (snapshot == null) {
            return NONE;
        }
        State before = now;
        now = snapshot.copy();
        return act(before, now.day);
    }

    int billOf(int number, int what) {
        if (!knows(number)) {
            return UNKNOWN;
        }
        Bill bill = now.bills.get(number);
        int payments = bill.payments.size();
        int[] answers = {bill.customer, bill.net, bill.tax(), bill.sum(), bill.day, bill.day + bill.due, bill.how(),
            bill.paid(), bill.discount, bill.fees(), bill.owed(), bill.reminders.size(),
            payments == 0 ? NONE : bill.payments.get(payments - 1).day(), now.overdue(bill) ? 1 : 0};
        return within(what, 0, 13) ? answers[what] : BAD_VALUE;
    }

    int customer(int customer, int what) {
        if (!within(customer, 0, 7)) {
            return UNKNOWN;
        }
        int all = 0;
        int open = 0;
        int oldest = NONE;
        for (int number = now.bills.size() - 1; number >= 0; number--) {
            Bill bill = now.bills.get(number);
            if (bill.customer == customer) {
                all++;
                if (bill.how() == 0) {
                    open++;
                    oldest = number;
                }
            }
        }
        int[] answers = {all, open, now.owed(customer, 0), now.credit[customer],
            now.received[customer] - now.returned[customer], now.owed(customer, 2), oldest};
        return within(what, 0, 6) ? answers[what] : BAD_VALUE;
    }

    int tax(int year, int way) {
        if (!within(year, 0, 99)) {
            return UNKNOWN;
        }
        if (!within(way, 0, 2)) {
            return BAD_VALUE;
        }
        if (way < 2) {
            return now.tax(year, way);
        }
        return year < now.closed.size() ? now.closed.get(year) : NONE;
    }

    int reason(int number) {
        if (!knows(number)) {
            return UNKNOWN;
        }
        Bill bill = now.bills.get(number);
        if (now.reminderDue(bill)) {
            return 0;
        }
        return bill.how() != 0 ? bill.how() : !now.overdue(bill) ? 3 : bill.reminders.size() == 3 ? 4 : 5;
    }

    int ifPaid(int customer, int amount, int what) {
        if (!within(customer, 0, 7)) {
            return UNKNOWN;
        }
        if (!within(amount, 1, 99999) || !within(what, 0, 3)) {
            return BAD_VALUE;
        }
        State before = now;
        now = before.copy();
        int done = doPay(customer, amount);
        int discounts = now.bills.stream().mapToInt(b -> b.discount).sum()
            - before.bills.stream().mapToInt(b -> b.discount).sum();
        int[] answers = {done, discounts, now.credit[customer], now.owed(customer, 0)};
        now = before;
        return done < 0 ? done : answers[what];
    }

    /** Tries amounts between one that is too little and one that is surely enough. */
    int settles(int customer) {
        if (!within(customer, 0, 7)) {
            return UNKNOWN;
        }
        int tooLittle = -1;
        int enough = now.owed(customer, 0);
        while (enough - tooLittle > 1) {
            int amount = (enough + tooLittle) / 2;
            if (paysAll(customer, amount)) {
                enough = amount;
            } else {
                tooLittle = amount;
            }
        }
        return enough;
    }

    private boolean paysAll(int customer, int amount) {
        int left = amount;
        for (Bill bill : now.bills) {
            if (bill.customer == customer && bill.how() == 0) {
                int discount = now.discountFor(bill);
                if (left + discount < bill.owed()) {
                    return false;
                }
                left -= bill.owed() - discount;
            }
        }
        return true;
    }

    /** Lets days pass, one by one, until a reminder is due. */
    int nextReminder(int number) {
        if (!knows(number)) {
            return UNKNOWN;
        }
        State later = now.copy();
        for (int waited = 0; waited <= 400 && later.day <= 9999; waited++) {
            if (later.reminderDue(later.bills.get(number))) {
                return later.day;
            }
            later.day++;
        }
        return NONE;
    }

    int worst() {
        int most = 0;
        for (int customer = 0; customer < 8; customer++) {
            most = Math.max(most, now.owed(customer, 0));
        }
        for (int customer = 0; customer < 8; customer++) {
            if (most > 0 && now.owed(customer, 0) == most) {
                return customer;
            }
        }
        return NONE;
    }

    private int bills(int how) {
        return (int) now.bills.stream().filter(b -> b.how() == how).count();
    }

    private static int total(int[] amounts) {
        int total = 0;
        for (int amount : amounts) {
            total += amount;
        }
        return total;
    }

    int count(int what) {
        int[] s = now.settings;
        int[] answers = {now.day, now.bills.size(), bills(0), bills(1), bills(2), now.overdueOnes(),
            now.owed(-1, 0), now.owed(-1, 2), total(now.credit), total(now.received), total(now.returned),
            now.bills.stream().mapToInt(b -> b.discount).sum(), now.bills.stream().mapToInt(Bill::fees).sum(),
            now.bills.stream().mapToInt(b -> b.reminders.size()).sum(), now.closed.size(),
            s[0], s[1], s[2], s[3], s[4], history.size(), text.length()};
        return within(what, 0, 21) ? answers[what] : BAD_VALUE;
    }
}
