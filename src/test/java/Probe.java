import java.util.ArrayList;
import java.util.List;

/** Ledgers with a past, and what a ledger answers, to tell whether two of them are alike. */
abstract class Probe extends LedgerTest {
    static final long THROWN = -2;
    // The entries of a used ledger, by what they are.
    static final int LATE = 0;
    static final int UNPAID = 1;
    static final int PAID = 2;
    static final int PAYMENT = 3;
    static final int REVERSED = 4;
    static final int REVERSAL = 5;
    static final int UNEVEN = 6;
    static final int SIX_ROWS = 7;
    static final int USED_ENTRIES = 8;
    // Two households that have not moved.
    static final int THIRD = 4;
    static final int FOURTH = 5;

    enum State { NEW, USED, IN_BATCH, FULL, ALL_CLOSED }

    interface Call {
        long of(HouseLedger x);
    }

    static HouseLedger make(State state) {
        return switch (state) {
            case NEW -> new HouseLedger();
            case USED -> used();
            case IN_BATCH -> inBatch();
            case FULL -> full();
            case ALL_CLOSED -> allClosed();
        };
    }

    private static HouseLedger used() {
        HouseLedger x = ledger();
        x.account(1);
        x.account(1);
        x.entry(20);
        x.row(LATE, CASH, 5);
        charge(x, 40, HOME, 100);
        charge(x, 35, HOME, 50);
        x.payment(HOME, 50, 41);
        charge(x, 36, OTHER, 60);
        x.reverse(REVERSED, 37);
        x.entry(42);
        x.row(UNEVEN, OTHER, 30);
        x.row(UNEVEN, CASH, -31);
        x.entry(43);
        for (int row = 0; row < 6; row++) {
            x.row(SIX_ROWS, OTHER, row % 2 == 0 ? 8 : -8);
        }
        x.closeMonth(0);
        x.payment(9, 77, 40);
        x.instal(HOME, 3);
        x.rate(7, 9);
        x.hardship(HOME, 90, 95);
        x.dun(HOME, 80);
        x.move(HOME, OTHER, 44);
        return x;
    }

    private static HouseLedger inBatch() {
        HouseLedger x = used();
        x.batch();
        charge(x, 45, HOME, 70);
        x.payment(HOME, 25, 46);
        x.closeMonth(1);
        return x;
    }

    private static HouseLedger full() {
        HouseLedger x = used();
        for (int i = 1; i < 20; i++) {
            x.payment(9, 200 + i, 50);
        }
        for (int i = 1; i < 10; i++) {
            x.instal(HOME, i);
        }
        x.account(1);
        x.account(1);
        fillWithEntries(x, 50, 40 - USED_ENTRIES);
        return x;
    }

    private static HouseLedger allClosed() {
        HouseLedger x = used();
        for (int month = 1; month < 120; month++) {
            x.closeMonth(month);
        }
        return x;
    }

    static long bit(boolean answer) {
        return answer ? 1 : 0;
    }

    static long closed(HouseLedger x, int entry) {
        try {
            return x.close(entry);
        } catch (IllegalArgumentException e) {
            return THROWN;
        }
    }

    private static void see(List<Long> seen, long... answers) {
        for (long answer : answers) {
            seen.add(answer);
        }
    }

    private static void look(HouseLedger x, List<Long> seen) {
        for (int account = 0; account < 7; account++) {
            see(seen, x.balance(account, 40), x.balance(account, 3599));
            see(seen, x.statement(account, 1, 0), x.statement(account, 1, 2));
        }
        for (int k = 0; k < 4; k++) {
            see(seen, x.item(HOME, k), x.item(OTHER, k), x.found(k), x.found(k + 17));
        }
        for (int entry = 0; entry < USED_ENTRIES + 6; entry++) {
            see(seen, x.opened(entry, 0), x.opened(entry, 1));
        }
        see(seen, x.due(0, 0), x.due(1, 0), x.due(9, 8), x.tax(1));
        see(seen, x.share(HOME, 1, 0), x.share(OTHER, 1, 1), x.share(THIRD, 1, 1), x.share(FOURTH, 1, 1));
        see(seen, x.interest(HOME, 300, 0), x.interest(HOME, 300, 1));
    }

    /** Asks for changes that show what can't be looked at: steps, hardships, open entries, limits. */
    private static void touch(HouseLedger x, List<Long> seen) {
        see(seen, x.dun(HOME, 93), x.dun(HOME, 94), x.dun(HOME, 96), x.dun(OTHER, 93));
        see(seen, bit(x.row(UNEVEN, INCOME, 1)));
        for (int entry = 0; entry < USED_ENTRIES + 2; entry++) {
            see(seen, closed(x, entry), bit(x.row(entry, CASH, 2)));
        }
        see(seen, x.dun(OTHER, 150));
        for (int entry = 0; entry < USED_ENTRIES + 2; entry++) {
            see(seen, x.reverse(entry, 50));
        }
        see(seen, x.account(1), x.entry(29), x.entry(3599), x.instal(HOME, 5));
        see(seen, bit(x.closeMonth(0)), bit(x.closeMonth(1)), bit(x.closeMonth(2)));
        see(seen, x.payment(HOME, 30, 3599), x.payment(99, 31, 3599));
        see(seen, bit(x.move(HOME, OTHER, 33)), bit(x.move(THIRD, FOURTH, 33)));
    }

    static List<Long> probe(HouseLedger x) {
        List<Long> seen = new ArrayList<>();
        look(x, seen);
        touch(x, seen);
        look(x, seen);
        see(seen, x.batch(), bit(x.endBatch(false)));
        look(x, seen);
        see(seen, x.batch());
        return seen;
    }
}
