import java.math.BigInteger;
import java.util.ArrayList;
import java.util.Comparator;
import java.util.List;

/**
 * The document again, in another form, to compare with: it keeps no sums and no order, but works
 * every answer out of what was told. Putting back is left to the caller, who tells all anew.
 */
final class LedgerModel {
    private static final int NONE = -1;

    private record Row(Entry entry, int number, Account account, long cents) {
        int told() {
            return 10 * entry.number + number;
        }
    }

    private record Gift(Entry payment, Row item, long cents) { }

    private record Plan(long total, int months) { }

    private static final class Account {
        int kind;
        int step;
        long reached;
        Long from;
        Long to;
        Long in;
        Long out;
    }

    private static final class Entry {
        int number;
        long day;
        List<Row> rows = new ArrayList<>();
        boolean posted;
        boolean reversed;
        boolean reversal;
        boolean payment;
    }

    private final List<Account> accounts = new ArrayList<>();
    private final List<Entry> entries = new ArrayList<>();
    private final List<Gift> gifts = new ArrayList<>();
    private final List<Plan> plans = new ArrayList<>();
    private final List<Long> found = new ArrayList<>();
    private int closed;
    private long above;
    private long below = 1;

    private static <T> T at(List<T> list, int k) {
        return k < 0 || k >= list.size() ? null : list.get(k);
    }

    private Account household(int number) {
        Account account = at(accounts, number);
        return account != null && account.kind == 1 ? account : null;
    }

    private static boolean isDay(long day) {
        return 0 <= day && day <= 3599;
    }

    private boolean isLate(long day) {
        return Math.floorDiv(day, 30) < closed;
    }

    private Entry newEntry(long day) {
        Entry entry = new Entry();
        entry.number = entries.size();
        entry.day = day;
        entries.add(entry);
        return entry;
    }

    private static void tell(Entry entry, Account account, long cents) {
        entry.rows.add(new Row(entry, entry.rows.size(), account, cents));
    }

    private List<Row> postedRows(Account account) {
        List<Row> rows = new ArrayList<>();
        for (Entry entry : entries) {
            for (Row row : entry.rows) {
                if (entry.posted && row.account == account) {
                    rows.add(row);
                }
            }
        }
        return rows;
    }

    private List<Row> items(Account household) {
        List<Row> items = new ArrayList<>();
        for (Row row : postedRows(household)) {
            if (row.cents > 0 && !row.entry.reversal) {
                items.add(row);
            }
        }
        items.sort(Comparator.<Row>comparingLong(row -> row.entry.day)
                .thenComparingInt(row -> row.entry.number).thenComparingInt(row -> row.number));
        return items;
    }

    private long given(Row item) {
        return gifts.stream().filter(gift -> gift.item == item).mapToLong(Gift::cents).sum();
    }

    private long stillDue(Row item) {
        return item.entry.reversed ? 0 : item.cents - given(item);
    }

    int account(int kind) {
        if (accounts.size() == 8 || kind < 0 || kind > 2) {
            return NONE;
        }
        Account account = new Account();
        account.kind = kind;
        accounts.add(account);
        return accounts.size() - 1;
    }

    int entry(long day) {
        if (entries.size() == 40 || !isDay(day) || isLate(day)) {
            return NONE;
        }
        return newEntry(day).number;
    }

    boolean row(int number, int account, long cents) {
        Entry entry = at(entries, number);
        if (entry == null || at(accounts, account) == null || entry.posted || entry.rows.size() == 6) {
            return false;
        }
        if (cents == 0 || cents > 100_000_000 || cents < -100_000_000) {
            return false;
        }
        tell(entry, accounts.get(account), cents);
        return true;
    }

    int close(int number) {
        Entry entry = at(entries, number);
        if (entry == null || entry.posted || isLate(entry.day)) {
            return NONE;
        }
        if (entry.rows.stream().mapToLong(Row::cents).sum() != 0) {
            throw new IllegalArgumentException();
        }
        entry.posted = true;
        return entry.rows.size();
    }

    long balance(int number, long day) {
        Account account = at(accounts, number);
        if (account == null || !isDay(day)) {
            return 0;
        }
        return postedRows(account).stream().filter(row -> row.entry.day <= day).mapToLong(Row::cents).sum();
    }

    int payment(int number, long cents, long day) {
        if (cents < 1 || cents > 100_000_000 || !isDay(day) || isLate(day) || entries.size() == 40) {
            return NONE;
        }
        Account cash = accounts.stream().filter(account -> account.kind == 0).findFirst().orElse(null);
        if (cash == null) {
            return NONE;
        }
        Account household = household(number);
        if (household == null) {
            if (found.size() < 20) {
                found.add(cents);
            }
            return NONE;
        }
        List<Row> items = items(household);
        Entry entry = newEntry(day);
        tell(entry, cash, cents);
        tell(entry, household, -cents);
        entry.posted = true;
        entry.payment = true;
        long rest = cents;
        for (Row item : items) {
            long gift = Math.min(rest, stillDue(item));
            if (gift > 0) {
                gifts.add(new Gift(entry, item, gift));
                rest -= gift;
            }
        }
        return entry.number;
    }

    long item(int account, int k) {
        Account household = household(account);
        Row item = household == null ? null : at(items(household), k);
        return item == null ? NONE : stillDue(item);
    }

    int opened(int number, int k) {
        Entry entry = at(entries, number);
        Gift gift = at(gifts.stream().filter(one -> one.payment == entry).toList(), k);
        return gift == null ? NONE : gift.item.told();
    }

    int dun(int number, long day) {
        Account household = household(number);
        if (household == null || !isDay(day)) {
            return NONE;
        }
        boolean overdue = items(household).stream()
                .anyMatch(item -> item.entry.day + 31 <= day && stillDue(item) > 0);
        boolean spared = household.from != null && household.from <= day && day <= household.to;
        if (!overdue) {
            household.step = 0;
        } else if (!spared && (household.step == 0 || household.reached + 14 <= day)) {
            household.step = household.step == 3 ? 3 : household.step + 1;
            household.reached = day;
        }
        return household.step;
    }

    boolean hardship(int account, long from, long to) {
        Account household = household(account);
        if (household == null || from > to) {
            return false;
        }
        household.from = from;
        household.to = to;
        return true;
    }

    int instal(int account, int months) {
        Account household = household(account);
        if (household == null || months < 1 || months > 24 || plans.size() == 10) {
            return NONE;
        }
        long total = items(household).stream().mapToLong(this::stillDue).sum();
        if (total == 0) {
            return NONE;
        }
        plans.add(new Plan(total, months));
        return plans.size() - 1;
    }

    long due(int number, int month) {
        Plan plan = at(plans, number);
        if (plan == null || month < 0 || month >= plan.months) {
            return NONE;
        }
        long[] parts = new long[plan.months];
        long rest = plan.total;
        for (int part = 0; part < plan.months; part++) {
            parts[part] = plan.total / plan.months;
            rest -= parts[part];
        }
        for (int part = 0; rest > 0; part++) {
            parts[part]++;
            rest--;
        }
        return parts[month];
    }

    boolean move(int accountA, int accountB, long day) {
        Account a = household(accountA);
        Account b = household(accountB);
        if (a == null || b == null || a == b || !isDay(day)) {
            return false;
        }
        if (a.in != null || a.out != null || b.in != null || b.out != null) {
            return false;
        }
        a.out = day;
        b.in = day;
        return true;
    }

    long share(int account, int month, int part) {
        Account household = household(account);
        if (household == null || month < 0 || month > 119 || part < 0 || part > 1) {
            return NONE;
        }
        int there = 0;
        for (long day = 30L * month; day < 30L * month + 30; day++) {
            boolean gone = household.out != null && day >= household.out;
            boolean notYet = household.in != null && day < household.in;
            there += gone || notYet ? 0 : 1;
        }
        return lowest(BigInteger.valueOf(there), BigInteger.valueOf(30), part);
    }

    private static long lowest(BigInteger over, BigInteger under, int part) {
        return (part == 0 ? over : under).divide(over.gcd(under)).longValueExact();
    }

    boolean closeMonth(int month) {
        if (closed == 120 || month != closed) {
            return false;
        }
        closed++;
        return true;
    }

    int reverse(int number, long day) {
        Entry entry = at(entries, number);
        if (entry == null || !entry.posted || entry.reversed || entry.reversal || entry.payment) {
            return NONE;
        }
        if (entry.rows.stream().anyMatch(row -> given(row) > 0) || !isDay(day) || entries.size() == 40) {
            return NONE;
        }
        Entry turned = newEntry(day);
        for (Row row : entry.rows) {
            tell(turned, row.account, -row.cents);
        }
        turned.posted = true;
        turned.reversal = true;
        entry.reversed = true;
        return turned.number;
    }

    long interest(int account, long day, int part) {
        Account household = household(account);
        if (household == null || !isDay(day) || part < 0 || part > 2) {
            return NONE;
        }
        BigInteger over = BigInteger.ZERO;
        for (Row item : items(household)) {
            for (long one = item.entry.day + 31; one <= day; one++) {
                over = over.add(BigInteger.valueOf(stillDue(item)));
            }
        }
        over = over.multiply(BigInteger.valueOf(above));
        BigInteger under = BigInteger.valueOf(below).multiply(BigInteger.valueOf(360));
        if (part < 2) {
            return lowest(over, under, part);
        }
        BigInteger[] whole = over.divideAndRemainder(under);
        boolean up = whole[1].shiftLeft(1).compareTo(under) >= 0;
        return whole[0].longValueExact() + (up ? 1 : 0);
    }

    boolean rate(long over, long under) {
        if (over < 0 || over > 100 || under < 1 || under > 100) {
            return false;
        }
        above = over;
        below = under;
        return true;
    }

    int statement(int number, int month, int k) {
        Account account = at(accounts, number);
        if (account == null) {
            return NONE;
        }
        Row row = at(postedRows(account).stream()
                .filter(one -> Math.floorDiv(one.entry.day, 30) == month).toList(), k);
        return row == null ? NONE : row.told();
    }

    long tax(int month) {
        long less = 0;
        for (Account account : accounts) {
            for (Row row : postedRows(account)) {
                if (account.kind == 2 && Math.floorDiv(row.entry.day, 30) == month) {
                    less -= row.cents;
                }
            }
        }
        return less < 0 ? 0 : Math.floorDiv(19 * less, 100);
    }

    long found(int k) {
        Long cents = at(found, k);
        return cents == null ? NONE : cents;
    }
}
