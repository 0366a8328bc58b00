/**
 * The money of households: entries whose rows sum to zero, payments that open the oldest items,
 * dunning, hardship, instalments, interest, months that close, reversals, batches, moves and found
 * money. What each call promises stands in the document DOC.md.
 */
public final class HouseLedger {
    public static final int NONE = -1;

    private static final int MAX_ACCOUNTS = 8;
    private static final int MAX_ENTRIES = 40;
    private static final int MAX_ROWS = 6;
    private static final int MAX_SLOTS = 240;
    // A gift ends either its item or its payment, so there are never more than of both together.
    private static final int MAX_GIFTS = 280;
    private static final int MAX_PLANS = 10;
    private static final int MAX_PARTS = 24;
    private static final int MAX_FOUND = 20;
    private static final long MAX_CENTS = 100000000L;
    private static final long MAX_RATE = 100L;

    private static final int DAYS = 3600;
    private static final int MONTHS = 120;
    private static final int MONTH_DAYS = 30;
    private static final int GRACE_DAYS = 30;
    private static final int STEP_DAYS = 14;
    private static final int MAX_STEP = 3;
    private static final long YEAR_DAYS = 360L;
    private static final long TAX_HUNDREDTHS = 19L;

    private static final int CASH = 0;
    private static final int HOUSEHOLD = 1;
    private static final int INCOME = 2;

    private static final int OPEN = 0;
    private static final int POSTED = 1;
    private static final int PAYMENT = 2;
    private static final int REVERSAL = 3;
    private static final int REVERSED = 4;

    // Longs as large as any have fewer steps to their greatest common divisor.
    private static final int MAX_DIVISIONS = 100;

    private final Books now;
    private final Books kept;
    private boolean batchIsOpen;
    private int batchesOpened;

    public HouseLedger() {
        now = new Books();
        kept = new Books();
        batchIsOpen = false;
        batchesOpened = 0;
    }

    public int account(int kind) {
        if (kind < CASH || kind > INCOME) {
            return NONE;
        }
        return now.accounts.add(kind);
    }

    public int entry(long day) {
        if (!now.isUnclosedDay(day)) {
            return NONE;
        }
        return now.journal.add((int) day, OPEN);
    }

    public boolean row(int entry, int account, long cents) {
        if (!now.journal.isOpen(entry) || !now.accounts.has(account)) {
            return false;
        }
        if (cents == 0 || cents < -MAX_CENTS || cents > MAX_CENTS) {
            return false;
        }
        return now.journal.addRow(entry, account, cents);
    }

    public int close(int entry) throws IllegalArgumentException {
        Journal journal = now.journal;
        if (!journal.isOpen(entry) || !now.isUnclosedDay(journal.days[entry])) {
            return NONE;
        }
        if (journal.sumOf(entry) != 0) {
            throw new IllegalArgumentException("the rows of the entry are not 0 together");
        }
        journal.states[entry] = POSTED;
        now.makeItems(entry);
        return journal.rowCounts[entry];
    }

    public long balance(int account, long day) {
        if (!now.accounts.has(account) || !isDay(day)) {
            return 0;
        }
        return now.journal.sumUntil(account, (int) day);
    }

    public int payment(int number, long cents, long day) {
        int cash = now.accounts.firstCash();
        if (cents < 1 || cents > MAX_CENTS || !now.isUnclosedDay(day)) {
            return NONE;
        }
        if (cash == NONE || now.journal.isFull()) {
            return NONE;
        }
        if (!now.accounts.hasHousehold(number)) {
            now.keepFound(cents);
            return NONE;
        }
        int entry = now.journal.add((int) day, PAYMENT);
        now.journal.addRow(entry, cash, cents);
        now.journal.addRow(entry, number, -cents);
        now.journal.payItems(entry, number, cents);
        return entry;
    }

    public long item(int account, int k) {
        if (!now.accounts.hasHousehold(account)) {
            return NONE;
        }
        int slot = now.journal.itemOf(account, k);
        return slot == NONE ? NONE : now.journal.dues[slot];
    }

    public int opened(int entry, int k) {
        return now.journal.toldGift(entry, k);
    }

    public int dun(int account, long day) {
        if (!now.accounts.hasHousehold(account) || !isDay(day)) {
            return NONE;
        }
        if (!now.journal.isOverdue(account, (int) day)) {
            now.accounts.steps[account] = 0;
        } else if (now.accounts.mayStep(account, (int) day)) {
            now.accounts.stepUp(account, (int) day);
        }
        return now.accounts.steps[account];
    }

    public boolean hardship(int account, long from, long to) {
        if (!now.accounts.hasHousehold(account) || from > to) {
            return false;
        }
        now.accounts.hardshipFrom[account] = from;
        now.accounts.hardshipTo[account] = to;
        return true;
    }

    public int instal(int account, int months) {
        if (!now.accounts.hasHousehold(account) || months < 1 || months > MAX_PARTS) {
            return NONE;
        }
        long total = now.journal.dueOf(account);
        return total == 0 ? NONE : now.plans.add(total, months);
    }

    public long due(int plan, int month) {
        return now.plans.partOf(plan, month);
    }

    public boolean move(int accountA, int accountB, long day) {
        Accounts accounts = now.accounts;
        if (!accounts.hasHousehold(accountA) || !accounts.hasHousehold(accountB)) {
            return false;
        }
        if (accountA == accountB || !isDay(day)) {
            return false;
        }
        if (accounts.hasMoved(accountA) || accounts.hasMoved(accountB)) {
            return false;
        }
        accounts.outDays[accountA] = (int) day;
        accounts.inDays[accountB] = (int) day;
        return true;
    }

    public long share(int account, int month, int part) {
        if (!now.accounts.hasHousehold(account) || !isMonth(month) || part < 0 || part > 1) {
            return NONE;
        }
        return inLowestTerms(now.accounts.daysThere(account, month), MONTH_DAYS, part);
    }

    public int batch() {
        if (batchIsOpen) {
            return NONE;
        }
        kept.copyFrom(now);
        batchIsOpen = true;
        batchesOpened++;
        return batchesOpened - 1;
    }

    public boolean endBatch(boolean keep) {
        if (!batchIsOpen) {
            return false;
        }
        if (!keep) {
            now.copyFrom(kept);
        }
        batchIsOpen = false;
        return true;
    }

    public boolean closeMonth(int month) {
        if (month != now.closedMonths || now.closedMonths >= MONTHS) {
            return false;
        }
        now.closedMonths++;
        return true;
    }

    public int reverse(int entry, long day) {
        Journal journal = now.journal;
        if (!journal.isReversible(entry) || !isDay(day) || journal.isFull()) {
            return NONE;
        }
        int reversal = journal.add((int) day, REVERSAL);
        journal.turnRows(entry, reversal);
        journal.clearItems(entry);
        journal.states[entry] = REVERSED;
        return reversal;
    }

    public long interest(int account, long day, int part) {
        if (!now.accounts.hasHousehold(account) || !isDay(day) || part < 0 || part > 2) {
            return NONE;
        }
        long above = now.journal.centDays(account, (int) day) * now.rateAbove;
        long below = Math.max(1L, YEAR_DAYS * now.rateBelow);
        if (part == 2) {
            return (2 * above + below) / (2 * below);
        }
        return inLowestTerms(above, below, part);
    }

    public boolean rate(long above, long below) {
        if (above < 0 || above > MAX_RATE || below < 1 || below > MAX_RATE) {
            return false;
        }
        now.rateAbove = above;
        now.rateBelow = below;
        return true;
    }

    public int statement(int account, int month, int k) {
        if (!now.accounts.has(account) || !isMonth(month)) {
            return NONE;
        }
        return now.journal.toldRow(account, month, k);
    }

    public long tax(int month) {
        if (!isMonth(month)) {
            return 0;
        }
        long less = -now.incomeOf(month);
        return less <= 0 ? 0 : less * TAX_HUNDREDTHS / 100;
    }

    public long found(int k) {
        return k < 0 || k >= now.foundCount ? NONE : now.foundCents[k];
    }

    private static boolean isDay(long day) {
        return day >= 0 && day < DAYS;
    }

    private static boolean isMonth(int month) {
        return month >= 0 && month < MONTHS;
    }

    private static long inLowestTerms(long above, long below, int part) {
        long divisor = Math.max(1L, commonDivisor(above, below));
        return (part == 0 ? above : below) / divisor;
    }

    private static long commonDivisor(long a, long b) {
        long greater = a;
        long lesser = b;
        for (int i = 0; i < MAX_DIVISIONS && lesser != 0; i++) {
            long rest = greater % lesser;
            greater = lesser;
            lesser = rest;
        }
        return greater;
    }

    private static void copyInts(int[] from, int[] to) {
        System.arraycopy(from, 0, to, 0, Math.min(from.length, to.length));
    }

    private static void copyLongs(long[] from, long[] to) {
        System.arraycopy(from, 0, to, 0, Math.min(from.length, to.length));
    }

    /** All that a batch puts back; two of them are made once, so that a batch makes no object. */
    private static final class Books {
        private final Accounts accounts = new Accounts();
        private final Journal journal = new Journal();
        private final Plans plans = new Plans();
        private final long[] foundCents = new long[MAX_FOUND];
        private int foundCount = 0;
        private int closedMonths = 0;
        private long rateAbove = 0;
        private long rateBelow = 1;

        private void copyFrom(Books other) {
            accounts.copyFrom(other.accounts);
            journal.copyFrom(other.journal);
            plans.copyFrom(other.plans);
            copyLongs(other.foundCents, foundCents);
            foundCount = other.foundCount;
            closedMonths = other.closedMonths;
            rateAbove = other.rateAbove;
            rateBelow = other.rateBelow;
        }

        private boolean isUnclosedDay(long day) {
            return isDay(day) && day / MONTH_DAYS >= closedMonths;
        }

        private void keepFound(long cents) {
            if (foundCount < MAX_FOUND) {
                foundCents[foundCount] = cents;
                foundCount++;
            }
        }

        private void makeItems(int entry) {
            int first = entry * MAX_ROWS;
            int end = first + journal.rowCounts[entry];
            for (int slot = first; slot < end; slot++) {
                if (journal.cents[slot] > 0 && accounts.hasHousehold(journal.accounts[slot])) {
                    journal.dues[slot] = journal.cents[slot];
                }
            }
        }

        private long incomeOf(int month) {
            long sum = 0;
            for (int account = 0; account < accounts.count; account++) {
                if (accounts.kinds[account] == INCOME) {
                    sum += journal.sumIn(account, month);
                }
            }
            return sum;
        }
    }

    /** The accounts, and what only a household has: its dunning, its hardship, its move. */
    private static final class Accounts {
        private int count = 0;
        private final int[] kinds = new int[MAX_ACCOUNTS];
        private final int[] steps = new int[MAX_ACCOUNTS];
        private final int[] stepDays = new int[MAX_ACCOUNTS];
        private final long[] hardshipFrom = new long[MAX_ACCOUNTS];
        private final long[] hardshipTo = new long[MAX_ACCOUNTS];
        private final int[] inDays = new int[MAX_ACCOUNTS];
        private final int[] outDays = new int[MAX_ACCOUNTS];

        private void copyFrom(Accounts other) {
            count = other.count;
            copyInts(other.kinds, kinds);
            copyInts(other.steps, steps);
            copyInts(other.stepDays, stepDays);
            copyLongs(other.hardshipFrom, hardshipFrom);
            copyLongs(other.hardshipTo, hardshipTo);
            copyInts(other.inDays, inDays);
            copyInts(other.outDays, outDays);
        }

        private int add(int kind) {
            if (count >= MAX_ACCOUNTS) {
                return NONE;
            }
            int account = count;
            kinds[account] = kind;
            steps[account] = 0;
            stepDays[account] = 0;
            // A span that ends before it begins holds no day.
            hardshipFrom[account] = 0;
            hardshipTo[account] = NONE;
            inDays[account] = NONE;
            outDays[account] = NONE;
            count++;
            return account;
        }

        private boolean has(int account) {
            return account >= 0 && account < count;
        }

        private boolean hasHousehold(int account) {
            return has(account) && kinds[account] == HOUSEHOLD;
        }

        private int firstCash() {
            for (int account = 0; account < count; account++) {
                if (kinds[account] == CASH) {
                    return account;
                }
            }
            return NONE;
        }

        private boolean mayStep(int account, int day) {
            if (day >= hardshipFrom[account] && day <= hardshipTo[account]) {
                return false;
            }
            return steps[account] == 0 || day - stepDays[account] >= STEP_DAYS;
        }

        private void stepUp(int account, int day) {
            steps[account] = Math.min(MAX_STEP, steps[account] + 1);
            stepDays[account] = day;
        }

        private boolean hasMoved(int account) {
            return inDays[account] != NONE || outDays[account] != NONE;
        }

        private int daysThere(int account, int month) {
            int first = month * MONTH_DAYS;
            int end = first + MONTH_DAYS;
            int from = inDays[account] == NONE ? first : Math.max(first, inDays[account]);
            int until = outDays[account] == NONE ? end : Math.min(end, outDays[account]);
            return Math.max(0, until - from);
        }
    }

    /**
     * The entries and their rows. Row r of entry e has the slot 6 e + r in the arrays of rows, so
     * that slots count up by entries, then by rows. A place is the same with entries by days.
     */
    private static final class Journal {
        private int count = 0;
        private final int[] days = new int[MAX_ENTRIES];
        private final int[] states = new int[MAX_ENTRIES];
        private final int[] rowCounts = new int[MAX_ENTRIES];
        private final int[] byDays = new int[MAX_ENTRIES];
        private final int[] accounts = new int[MAX_SLOTS];
        private final long[] cents = new long[MAX_SLOTS];
        // NONE in the slot of a row that is no item.
        private final long[] dues = new long[MAX_SLOTS];
        private int giftCount = 0;
        private final int[] giftPayments = new int[MAX_GIFTS];
        private final int[] giftSlots = new int[MAX_GIFTS];

        private void copyFrom(Journal other) {
            count = other.count;
            copyInts(other.days, days);
            copyInts(other.states, states);
            copyInts(other.rowCounts, rowCounts);
            copyInts(other.byDays, byDays);
            copyInts(other.accounts, accounts);
            copyLongs(other.cents, cents);
            copyLongs(other.dues, dues);
            giftCount = other.giftCount;
            copyInts(other.giftPayments, giftPayments);
            copyInts(other.giftSlots, giftSlots);
        }

        private boolean isFull() {
            return count >= MAX_ENTRIES;
        }

        private boolean isOpen(int entry) {
            return entry >= 0 && entry < count && states[entry] == OPEN;
        }

        private int add(int day, int state) {
            if (isFull()) {
                return NONE;
            }
            int entry = count;
            days[entry] = day;
            states[entry] = state;
            rowCounts[entry] = 0;
            // Of entries of one day the new one is last, as its number is the highest.
            int place = entry;
            while (place > 0 && days[byDays[place - 1]] > day) {
                byDays[place] = byDays[place - 1];
                place--;
            }
            byDays[place] = entry;
            count++;
            return entry;
        }

        private boolean addRow(int entry, int account, long amount) {
            if (entry < 0 || entry >= count || rowCounts[entry] >= MAX_ROWS) {
                return false;
            }
            int slot = entry * MAX_ROWS + rowCounts[entry];
            accounts[slot] = account;
            cents[slot] = amount;
            dues[slot] = NONE;
            rowCounts[entry]++;
            return true;
        }

        private long sumOf(int entry) {
            long sum = 0;
            int first = entry * MAX_ROWS;
            int end = first + rowCounts[entry];
            for (int slot = first; slot < end; slot++) {
                sum += cents[slot];
            }
            return sum;
        }

        private boolean isPostedRow(int slot, int account) {
            int entry = slot / MAX_ROWS;
            return states[entry] != OPEN && slot % MAX_ROWS < rowCounts[entry]
                    && accounts[slot] == account;
        }

        private boolean isPostedRowIn(int slot, int account, int month) {
            return days[slot / MAX_ROWS] / MONTH_DAYS == month && isPostedRow(slot, account);
        }

        private long sumUntil(int account, int day) {
            long sum = 0;
            int end = count * MAX_ROWS;
            for (int slot = 0; slot < end; slot++) {
                if (days[slot / MAX_ROWS] <= day && isPostedRow(slot, account)) {
                    sum += cents[slot];
                }
            }
            return sum;
        }

        private long sumIn(int account, int month) {
            long sum = 0;
            int end = count * MAX_ROWS;
            for (int slot = 0; slot < end; slot++) {
                if (isPostedRowIn(slot, account, month)) {
                    sum += cents[slot];
                }
            }
            return sum;
        }

        private int toldRow(int account, int month, int k) {
            int seen = 0;
            int end = count * MAX_ROWS;
            for (int slot = 0; slot < end; slot++) {
                if (isPostedRowIn(slot, account, month)) {
                    if (seen == k) {
                        return told(slot);
                    }
                    seen++;
                }
            }
            return NONE;
        }

        private static int told(int slot) {
            return slot / MAX_ROWS * 10 + slot % MAX_ROWS;
        }

        private int itemAt(int place, int account) {
            int entry = byDays[place / MAX_ROWS];
            int row = place % MAX_ROWS;
            int slot = entry * MAX_ROWS + row;
            if (row >= rowCounts[entry] || accounts[slot] != account) {
                return NONE;
            }
            return dues[slot] == NONE ? NONE : slot;
        }

        private int itemOf(int account, int k) {
            int seen = 0;
            int end = count * MAX_ROWS;
            for (int place = 0; place < end; place++) {
                int slot = itemAt(place, account);
                if (slot != NONE) {
                    if (seen == k) {
                        return slot;
                    }
                    seen++;
                }
            }
            return NONE;
        }

        private void payItems(int payment, int account, long amount) {
            long rest = amount;
            int end = count * MAX_ROWS;
            for (int place = 0; place < end && rest > 0; place++) {
                int slot = itemAt(place, account);
                if (slot != NONE && dues[slot] > 0) {
                    long gift = Math.min(rest, dues[slot]);
                    dues[slot] -= gift;
                    rest -= gift;
                    keepGift(payment, slot);
                }
            }
        }

        private void keepGift(int payment, int slot) {
            if (giftCount < MAX_GIFTS) {
                giftPayments[giftCount] = payment;
                giftSlots[giftCount] = slot;
                giftCount++;
            }
        }

        private int toldGift(int payment, int k) {
            int seen = 0;
            for (int gift = 0; gift < giftCount; gift++) {
                if (giftPayments[gift] == payment) {
                    if (seen == k) {
                        return told(giftSlots[gift]);
                    }
                    seen++;
                }
            }
            return NONE;
        }

        private boolean isOverdue(int account, int day) {
            int end = count * MAX_ROWS;
            for (int place = 0; place < end; place++) {
                int slot = itemAt(place, account);
                if (slot != NONE && dues[slot] > 0 && daysLate(slot, day) > 0) {
                    return true;
                }
            }
            return false;
        }

        private long dueOf(int account) {
            long sum = 0;
            int end = count * MAX_ROWS;
            for (int place = 0; place < end; place++) {
                int slot = itemAt(place, account);
                if (slot != NONE) {
                    sum += dues[slot];
                }
            }
            return sum;
        }

        private long centDays(int account, int day) {
            long sum = 0;
            int end = count * MAX_ROWS;
            for (int place = 0; place < end; place++) {
                int slot = itemAt(place, account);
                if (slot != NONE) {
                    sum += dues[slot] * daysLate(slot, day);
                }
            }
            return sum;
        }

        private int daysLate(int slot, int day) {
            return Math.max(0, day - days[slot / MAX_ROWS] - GRACE_DAYS);
        }

        private boolean isReversible(int entry) {
            if (entry < 0 || entry >= count || states[entry] != POSTED) {
                return false;
            }
            int first = entry * MAX_ROWS;
            int end = first + rowCounts[entry];
            for (int slot = first; slot < end; slot++) {
                if (dues[slot] != NONE && dues[slot] != cents[slot]) {
                    return false;
                }
            }
            return true;
        }

        private void turnRows(int entry, int reversal) {
            int first = entry * MAX_ROWS;
            int end = first + rowCounts[entry];
            for (int slot = first; slot < end; slot++) {
                addRow(reversal, accounts[slot], -cents[slot]);
            }
        }

        private void clearItems(int entry) {
            int first = entry * MAX_ROWS;
            int end = first + rowCounts[entry];
            for (int slot = first; slot < end; slot++) {
                if (dues[slot] != NONE) {
                    dues[slot] = 0;
                }
            }
        }
    }

    /** The plans, each as its smallest part and how many of its first parts have a cent more. */
    private static final class Plans {
        private int count = 0;
        private final int[] months = new int[MAX_PLANS];
        private final long[] parts = new long[MAX_PLANS];
        private final long[] longer = new long[MAX_PLANS];

        private void copyFrom(Plans other) {
            count = other.count;
            copyInts(other.months, months);
            copyLongs(other.parts, parts);
            copyLongs(other.longer, longer);
        }

        private int add(long total, int partCount) {
            if (count >= MAX_PLANS || partCount < 1) {
                return NONE;
            }
            int plan = count;
            months[plan] = partCount;
            parts[plan] = total / partCount;
            longer[plan] = total % partCount;
            count++;
            return plan;
        }

        private long partOf(int plan, int month) {
            if (plan < 0 || plan >= count || month < 0 || month >= months[plan]) {
                return NONE;
            }
            return month < longer[plan] ? parts[plan] + 1 : parts[plan];
        }
    }
}
